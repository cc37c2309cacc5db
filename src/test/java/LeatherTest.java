/** Promises 1 to 9 and 17: hides, parts and seams. */
public final class LeatherTest {
    public static void main(String[] args) {
        aNewObject();
        hide();
        fault();
        cut();
        find();
        findByWorth();
        skive();
        pierce();
        match();
        part();
        strength();
        sew();
        Due.end();
    }

    private static void aNewObject() {
        Saddletree x = new Saddletree();
        Due.same("1 fault", Due.outcome(x, t -> t.fault(0, 0, 0)), "IndexOutOfBoundsException");
        Due.same("1 part", Due.outcome(x, t -> t.part(0, 0)), "IndexOutOfBoundsException");
        Due.same("1 rides", x.rides(), 0);
        for (int i = 0; i < 6; i++) {
            for (int section = 0; section < 7; section++) {
                Due.same("1 back", x.back(i, section, 1), 0);
                Due.same("1 tree", x.tree(i, section, 1), 0);
                Due.same("1 flock", x.flock(i, section, 1), 0);
                Due.same("1 sore", x.sore(i, section, 0), 0);
            }
        }
        Saddletree other = new Saddletree();
        Due.same("1 two objects are two", other.back(0, 0, 0), 0);
    }

    private static void hide() {
        Saddletree x = new Saddletree();
        for (int i = 0; i < 8; i++) {
            Due.same("2 hide", x.hide(2 + i), i);
        }
        Due.same("2 a ninth hide", Due.outcome(x, t -> t.hide(2)), "IllegalStateException");
        Due.same("2 a ninth hide too thin", Due.outcome(x, t -> t.hide(1)), "IllegalArgumentException");
        for (int thickness : new int[] {1, 10, 0, -1, Integer.MIN_VALUE, Integer.MAX_VALUE}) {
            Due.refuses("2 hide", Due.ARGUMENT, t -> t.hide(5), t -> t.hide(thickness));
        }
        Due.refuses("2 a ninth hide", Due.STATE, LeatherTest::eightHides, t -> t.hide(9));
    }

    private static void eightHides(Saddletree x) {
        for (int i = 0; i < 8; i++) {
            x.hide(5);
        }
    }

    private static void fault() {
        Saddletree x = new Saddletree();
        x.hide(5);
        x.hide(5);
        Due.same("3 fault", x.fault(0, 0, 0), 95);
        Due.same("3 fault again", x.fault(0, 0, 0), 95);
        Due.same("3 fault", x.fault(0, 11, 7), 94);
        x.cut(0, 1, 0, 3, 2, false);
        Due.same("3 fault of what is cut out", x.fault(0, 2, 1), 88);
        Due.same("3 fault beside", x.fault(0, 0, 1), 87);
        Due.same("3 fault of another hide", x.fault(1, 5, 5), 95);
        for (int[] at : new int[][] {{-1, 0, 0}, {1, 0, 0}, {8, 0, 0}, {0, -1, 0}, {0, 12, 0}, {0, 0, -1}, {0, 0, 8}}) {
            Due.refuses("3 fault", Due.INDEX, t -> t.hide(5), t -> t.fault(at[0], at[1], at[2]));
        }
    }

    private static void cut() {
        Saddletree x = new Saddletree();
        x.hide(5);
        Due.same("4 cut", x.cut(0, 0, 0, 12, 5, true), 0);
        Due.same("4 cut", x.cut(0, 0, 5, 12, 3, false), 1);
        Due.same("4 the thickness of a strap", x.part(0, 2), 5);
        Due.same("4 the thickness of the belly", x.part(1, 2), 4);
        Due.same("4 all is cut out", x.fault(0, 3, 3), 0);
        x.hide(2);
        x.cut(1, 0, 4, 1, 2, false);
        Due.same("4 the thinnest square counts", x.part(2, 2), 1);
        Due.same("4 on the cut", Due.outcome(x, t -> t.cut(1, 0, 5, 1, 1, false)), "IllegalStateException");
        Due.same("4 beside the cut", x.cut(1, 0, 6, 1, 1, false), 3);

        Due.Setup faulty = t -> {
            t.hide(5);
            t.fault(0, 4, 3);
        };
        for (int[] at : new int[][] {{-1, 0, 0}, {1, 0, 0}, {0, -1, 0}, {0, 12, 0}, {0, 0, -1}, {0, 0, 8}}) {
            Due.refuses("4 cut", Due.INDEX, faulty, t -> t.cut(at[0], at[1], at[2], 0, 0, true));
        }
        for (int[] size : new int[][] {{0, 1}, {13, 1}, {1, 0}, {1, 9}, {-1, 1}, {1, Integer.MAX_VALUE},
                {Integer.MAX_VALUE, 1}}) {
            Due.refuses("4 cut", Due.ARGUMENT, faulty, t -> t.cut(0, 0, 0, size[0], size[1], false));
        }
        Due.refuses("4 beyond the columns", Due.ARGUMENT, faulty, t -> t.cut(0, 5, 3, 8, 1, false));
        Due.refuses("4 beyond the rows", Due.ARGUMENT, faulty, t -> t.cut(0, 4, 3, 1, 6, true));
        Due.refuses("4 a fault", Due.STATE, faulty, t -> t.cut(0, 3, 2, 2, 2, false));
        Due.refuses("4 a strap of the belly", Due.STATE, faulty, t -> t.cut(0, 0, 4, 1, 2, true));
        Due.refuses("4 a strap of the belly alone", Due.STATE, faulty, t -> t.cut(0, 0, 7, 1, 1, true));
        fortyParts();
    }

    private static void fortyParts() {
        Saddletree x = new Saddletree();
        x.hide(5);
        for (int i = 0; i < 40; i++) {
            Due.same("4 cut", x.cut(0, i % 12, i / 12, 1, 1, false), i);
        }
        Due.same("4 a part too many", Due.outcome(x, t -> t.cut(0, 11, 7, 1, 1, false)), "IllegalStateException");
        Due.same("4 nothing was cut", x.fault(0, 0, 0), 56);
        Due.same("5 find, however many parts there are", x.find(0, 1, 1, false, 1), 60);
    }

    private static void find() {
        Saddletree x = new Saddletree();
        x.hide(5);
        Due.same("5 find", x.find(0, 12, 8, false, 4), 0);
        Due.same("5 find", x.find(0, 12, 8, false, 5), -1);
        Due.same("5 a strap without belly", x.find(0, 12, 5, true, 5), 0);
        Due.same("5 a strap of the belly", x.find(0, 1, 6, true, 1), -1);
        Due.same("5 the lowest row of the belly", x.find(0, 1, 1, false, 1), 60);
        Due.same("5 too thick", x.find(0, 1, 1, false, 6), -1);
        x.fault(0, 0, 5);
        Due.same("5 the lowest column", x.find(0, 2, 1, false, 4), 61);
        for (int column = 0; column < 12; column++) {
            x.fault(0, column, 5);
        }
        Due.same("5 the next row", x.find(0, 2, 1, false, 4), 72);
        Due.refuses("5 find", Due.INDEX, t -> t.hide(5), t -> t.find(1, 0, 0, true, 0));
        Due.refuses("5 find", Due.INDEX, t -> t.hide(5), t -> t.find(-1, 1, 1, true, 1));
        for (int[] a : new int[][] {{0, 1, 1}, {13, 1, 1}, {1, 0, 1}, {1, 9, 1}, {1, 1, 0}, {1, 1, 10}}) {
            Due.refuses("5 find", Due.ARGUMENT, t -> t.hide(5), t -> t.find(0, a[0], a[1], true, a[2]));
        }
    }

    private static void findByWorth() {
        Saddletree x = new Saddletree();
        x.hide(6);
        Due.same("5 a strap of two rows between", x.find(0, 3, 2, true, 6), 24);
        x.fault(0, 2, 3);
        x.fault(0, 5, 3);
        x.fault(0, 8, 3);
        x.fault(0, 11, 3);
        Due.same("5 back and between", x.find(0, 3, 2, true, 6), 12);
        x.fault(0, 1, 2);
        x.fault(0, 4, 2);
        x.fault(0, 7, 2);
        x.fault(0, 10, 2);
        Due.same("5 the back alone", x.find(0, 3, 2, true, 6), 0);
        Due.same("5 narrower between", x.find(0, 2, 2, true, 6), 36);
        Due.same("5 partly belly is less worth", x.find(0, 3, 2, false, 5), 60);
        for (int column = 0; column < 12; column++) {
            x.fault(0, column, 6);
        }
        Due.same("5 between and belly", x.find(0, 3, 2, false, 5), 48);
    }

    private static void skive() {
        Saddletree x = new Saddletree();
        x.hide(9);
        x.cut(0, 0, 0, 3, 1, true);
        Due.same("6 skive", x.skive(0, 8), 9);
        Due.same("6 skive", x.skive(0, 1), 8);
        Due.same("6 the thickness", x.part(0, 2), 1);
        Due.Setup two = t -> {
            t.hide(9);
            t.cut(0, 0, 0, 3, 1, true);
            t.cut(0, 3, 0, 3, 1, false);
            t.cut(0, 6, 0, 3, 1, false);
            t.skive(0, 5);
            t.sew(1, 2, 1, 1);
        };
        Due.refuses("6 skive", Due.INDEX, two, t -> t.skive(3, 0));
        Due.refuses("6 skive", Due.INDEX, two, t -> t.skive(-1, 1));
        for (int thickness : new int[] {0, -1, 5, 6, 9}) {
            Due.refuses("6 skive", Due.ARGUMENT, two, t -> t.skive(0, thickness));
        }
        Due.refuses("6 skive", Due.ARGUMENT, two, t -> t.skive(1, 9));
        Due.refuses("6 in a seam", Due.STATE, two, t -> t.skive(1, 1));
        Due.refuses("6 in a seam", Due.STATE, two, t -> t.skive(2, 8));
    }

    private static void pierce() {
        Saddletree x = new Saddletree();
        x.hide(9);
        x.cut(0, 0, 0, 12, 1, true);
        Due.same("7 pierce", x.pierce(0, 20), 0);
        Due.same("7 pierce", x.pierce(0, 45), 1);
        Due.same("7 pierce", x.pierce(0, 3), 0);
        Due.same("7 pierce", x.pierce(0, 18), 1);
        Due.same("7 pierce", x.pierce(0, 22), 3);
        Due.same("7 holes", x.part(0, 4), 5);
        Due.Setup straps = t -> {
            t.hide(9);
            t.cut(0, 0, 0, 4, 1, true);
            t.cut(0, 4, 0, 1, 1, true);
            t.cut(0, 5, 0, 4, 1, false);
            t.cut(0, 0, 1, 4, 1, true);
            t.pierce(0, 8);
            t.pierce(3, 8);
            t.sew(1, 2, 1, 1);
            t.buckle(3, 0, 1, 0);
        };
        Due.refuses("7 pierce", Due.INDEX, straps, t -> t.pierce(4, 0));
        Due.refuses("7 pierce", Due.INDEX, straps, t -> t.pierce(-1, 5));
        for (int place : new int[] {2, 14, 0, -1, 17, Integer.MIN_VALUE, Integer.MAX_VALUE}) {
            Due.refuses("7 pierce", Due.ARGUMENT, straps, t -> t.pierce(0, place));
        }
        for (int place = 0; place <= 4; place++) {
            int at = place;
            Due.refuses("7 one column has no place", Due.ARGUMENT, straps, t -> t.pierce(1, at));
        }
        for (int place = 7; place <= 9; place++) {
            int at = place;
            Due.refuses("7 too near", Due.STATE, straps, t -> t.pierce(0, at));
        }
        Due.refuses("7 in a seam", Due.STATE, straps, t -> t.pierce(2, 8));
        Due.refuses("7 buckled", Due.STATE, straps, t -> t.pierce(3, 3));
        Due.refuses("7 broke", Due.STATE, t -> {
            straps.on(t);
            t.pull(0, 1, 9999);
        }, t -> t.pierce(3, 3));
        Saddletree y = new Saddletree();
        straps.on(y);
        Due.same("7 the ends", y.pierce(0, 3), 0);
        Due.same("7 the ends", y.pierce(0, 13), 2);
        y.unbuckle(3);
        Due.same("7 buckled no more", y.pierce(3, 3), 0);
    }

    private static void match() {
        Saddletree x = new Saddletree();
        x.hide(9);
        x.hide(8);
        x.cut(0, 0, 2, 3, 2, true);
        x.cut(1, 5, 2, 3, 2, true);
        x.cut(0, 3, 2, 3, 2, false);
        x.cut(0, 6, 2, 2, 2, true);
        x.cut(0, 8, 2, 3, 1, true);
        x.cut(0, 6, 0, 3, 2, true);
        Due.same("8 itself", x.match(0, 0), true);
        Due.same("8 not as thick", x.match(0, 1), false);
        x.skive(0, 8);
        Due.same("8 as thick by now, of two hides", x.match(0, 1), true);
        for (int part = 2; part < 6; part++) {
            x.skive(part, 8);
            Due.same("8 match", x.match(0, part), false);
            Due.same("8 match", x.match(part, 1), false);
        }
        x.pierce(0, 5);
        Due.same("8 holes do not matter", x.match(1, 0), true);
        for (int[] pair : new int[][] {{6, 0}, {0, 6}, {-1, 0}, {0, -1}, {40, 0}}) {
            Due.same("8 match", Due.outcome(x, t -> t.match(pair[0], pair[1])), "IndexOutOfBoundsException");
        }
    }

    private static void part() {
        Saddletree x = new Saddletree();
        x.hide(9);
        x.cut(0, 1, 3, 4, 2, true);
        x.pierce(0, 10);
        x.pierce(0, 4);
        tells("9 part", x, 4, 2, 9, 3, 2, 0, 135, -1, -1, -1, 0);
        x.buckle(0, 5, 2, 1);
        tells("9 part", x, 4, 2, 9, 3, 2, 0, 135, 2, 5, 10, 0);
        x.pull(2, 5, 100);
        tells("9 part", x, 4, 2, 9, 3, 2, 10, 125, 2, 5, 10, 0);
        x.pull(2, 5, 126);
        tells("9 part", x, 4, 2, 9, 3, 2, 10, 125, -1, -1, -1, 1);
        Due.Setup one = t -> {
            t.hide(9);
            t.cut(0, 1, 3, 4, 2, true);
        };
        Due.refuses("9 part", Due.INDEX, one, t -> t.part(1, 11));
        Due.refuses("9 part", Due.INDEX, one, t -> t.part(-1, 0));
        Due.refuses("9 part", Due.ARGUMENT, one, t -> t.part(0, -1));
        Due.refuses("9 part", Due.ARGUMENT, one, t -> t.part(0, 11));
    }

    private static void tells(String call, Saddletree x, int... due) {
        for (int what = 0; what < due.length; what++) {
            Due.same(call + " " + what, x.part(0, what), due[what]);
        }
    }

    private static void strength() {
        Saddletree x = new Saddletree();
        x.hide(7);
        x.cut(0, 0, 0, 4, 1, true);
        x.cut(0, 4, 0, 4, 8, false);
        Due.same("9 strength", x.part(0, 6), 70);
        x.pierce(0, 3);
        Due.same("9 strength with a hole", x.part(0, 6), 52);
        x.pierce(0, 5);
        Due.same("9 strength with two holes", x.part(0, 6), 52);
        x.skive(0, 3);
        Due.same("9 strength skived", x.part(0, 6), 22);
        Due.same("9 strength of what is no strap", x.part(1, 6), 480);
        x.pierce(1, 3);
        Due.same("9 strength of what is no strap", x.part(1, 6), 360);
        x.skive(0, 1);
        x.buckle(0, 0, 1, 0);
        for (int i = 0; i < 20; i++) {
            x.pull(0, 1, 7);
        }
        Due.same("9 no wear of less than ten", x.part(0, 5), 0);
    }

    private static void sew() {
        Saddletree x = new Saddletree();
        x.hide(9);
        x.cut(0, 0, 0, 4, 2, false);
        x.cut(0, 4, 0, 3, 2, true);
        x.cut(0, 0, 5, 6, 2, false);
        x.skive(1, 5);
        Due.same("17 by thread", x.sew(0, 1, 4, 6), 4 * 3 * 6);
        Due.same("17 by leather", x.sew(1, 0, 12, 50), 5 * 8 * 3);
        Due.same("17 by leather", x.sew(0, 2, 1, 50), Math.min(50 * 4, 8 * 19 * 4));
        Due.same("17 by leather", x.sew(2, 0, 12, 50), 8 * 8 * 4);
        Due.same("17 four seams", Due.outcome(x, t -> t.sew(0, 1, 1, 1)), "IllegalStateException");
        Due.same("17 four seams", Due.outcome(x, t -> t.sew(2, 0, 1, 1)), "IllegalStateException");
        Due.same("17 the others have fewer", x.sew(2, 1, 1, 1), 3);
        Due.Setup straps = t -> {
            t.hide(9);
            t.cut(0, 0, 0, 4, 1, true);
            t.cut(0, 4, 0, 4, 1, true);
            t.cut(0, 8, 0, 4, 1, true);
            t.pierce(0, 5);
            t.pierce(1, 5);
            t.pierce(2, 5);
            t.buckle(0, 0, 1, 0);
            t.buckle(1, 1, 2, 0);
            t.pull(1, 2, 9999);
        };
        for (int[] pair : new int[][] {{3, 0}, {0, 3}, {-1, 0}, {0, -1}, {3, 3}}) {
            Due.refuses("17 sew", Due.INDEX, straps, t -> t.sew(pair[0], pair[1], 0, 0));
        }
        Due.refuses("17 one with itself", Due.ARGUMENT, straps, t -> t.sew(0, 0, 1, 1));
        for (int[] by : new int[][] {{0, 1}, {13, 1}, {1, 0}, {1, 51}}) {
            Due.refuses("17 sew", Due.ARGUMENT, straps, t -> t.sew(0, 2, by[0], by[1]));
        }
        Due.refuses("17 buckled", Due.STATE, straps, t -> t.sew(2, 0, 1, 1));
        Due.refuses("17 buckled", Due.STATE, straps, t -> t.sew(0, 2, 1, 1));
        Due.refuses("17 broke", Due.STATE, straps, t -> t.sew(2, 1, 1, 1));
        Due.refuses("17 broke", Due.STATE, straps, t -> t.sew(1, 2, 1, 1));
    }
}
