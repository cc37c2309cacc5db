/** Promises 10 to 16: straps on rings and pulls. */
public final class StrapTest {
    public static void main(String[] args) {
        buckle();
        unbuckle();
        bears();
        way();
        wayOfSeveral();
        pull();
        pullsThatWear();
        holds();
        oil();
        Due.end();
    }

    /** Straps 0 to 5 of one row, 6 to 11 of two rows, all of two columns with the one hole given. */
    private static void straps(Saddletree x, int... places) {
        x.hide(9);
        for (int i = 0; i < places.length; i++) {
            int part = x.cut(0, i % 6 * 2, i / 6, 2, 1 + i / 6, true);
            x.pierce(part, places[i]);
        }
    }

    private static void buckle() {
        Saddletree x = new Saddletree();
        x.hide(9);
        x.cut(0, 0, 0, 12, 1, true);
        x.pierce(0, 30);
        x.pierce(0, 10);
        Due.same("10 buckle", x.buckle(0, 7, 0, 1), 30);
        Due.same("10 its lower ring", x.part(0, 7), 0);
        Due.same("10 its greater ring", x.part(0, 8), 7);
        x.unbuckle(0);
        Due.same("10 buckle by another hole", x.buckle(0, 3, 4, 0), 10);
        Due.same("10 its length", x.part(0, 9), 10);
        x.cut(0, 0, 1, 4, 1, true);
        x.pierce(1, 3);
        x.cut(0, 4, 1, 4, 1, false);
        x.sew(1, 2, 1, 1);
        Due.same("10 one that is in a seam", x.buckle(1, 3, 4, 0), 3);

        Due.Setup setup = t -> {
            straps(t, 3, 4, 5);
            t.cut(0, 6, 0, 2, 1, false);
            t.pierce(3, 3);
            t.buckle(1, 1, 2, 0);
            t.buckle(2, 3, 0, 0);
            t.pull(0, 3, 9999);
        };
        for (int[] a : new int[][] {{4, 1, 1, 0}, {-1, 0, 1, 0}, {0, 8, 8, 0}, {0, -1, 1, 0}, {0, 1, 8, 0}, {0, 1, -1, 0},
                {0, 1, 1, 1}, {0, 0, 1, -1}, {1, 0, 1, 1}}) {
            Due.refuses("10 buckle", Due.INDEX, setup, t -> t.buckle(a[0], a[1], a[2], a[3]));
        }
        for (int part = 0; part < 4; part++) {
            int p = part;
            Due.refuses("10 both rings are one", Due.ARGUMENT, setup, t -> t.buckle(p, 6, 6, 0));
        }
        Due.refuses("10 is buckled", Due.STATE, setup, t -> t.buckle(1, 1, 2, 0));
        Due.refuses("10 broke", Due.STATE, setup, t -> t.buckle(2, 1, 2, 0));
        Due.refuses("10 is no strap", Due.STATE, setup, t -> t.buckle(3, 1, 2, 0));
    }

    private static void unbuckle() {
        Saddletree x = new Saddletree();
        straps(x, 3, 5);
        x.buckle(1, 6, 2, 0);
        Due.same("11 unbuckle", x.unbuckle(1), 5);
        for (int what = 7; what <= 9; what++) {
            Due.same("11 unbuckled", x.part(1, what), -1);
        }
        Due.same("11 it breaks not by that", x.part(1, 10), 0);
        Due.same("11 no way", x.way(2, 6, 0), -1);
        Due.refuses("11 unbuckle", Due.INDEX, t -> straps(t, 3), t -> t.unbuckle(1));
        Due.refuses("11 unbuckle", Due.INDEX, t -> straps(t, 3), t -> t.unbuckle(-1));
        Due.refuses("11 not buckled", Due.STATE, t -> straps(t, 3), t -> t.unbuckle(0));
        Due.refuses("11 broke", Due.STATE, t -> {
            straps(t, 3);
            t.buckle(0, 0, 1, 0);
            t.pull(0, 1, 9999);
        }, t -> t.unbuckle(0));
    }

    private static void bears() {
        Saddletree x = new Saddletree();
        straps(x, 3, 3, 4, 3, 3, 5);
        x.buckle(0, 0, 1, 0);
        x.buckle(1, 1, 0, 0);
        x.buckle(2, 0, 1, 0);
        x.buckle(3, 1, 2, 0);
        x.buckle(4, 5, 6, 0);
        Due.same("12 shared and rounded up", x.bears(0, 0, 2, 101), 51);
        Due.same("12 shared and rounded up", x.bears(1, 0, 2, 101), 51);
        Due.same("12 a longer one is slack", x.bears(2, 0, 2, 101), 0);
        Due.same("12 alone", x.bears(3, 0, 2, 101), 101);
        Due.same("12 not on the way", x.bears(4, 0, 2, 101), 0);
        Due.same("12 not buckled", x.bears(5, 0, 2, 101), 0);
        Due.same("12 there is no way", x.bears(0, 0, 6, 101), 0);
        Due.same("12 beyond the ring", x.bears(3, 0, 1, 101), 0);
        Due.same("12 ahead of anything that breaks", x.bears(0, 0, 2, 9999), 5000);
        Due.same("12 the least force", x.bears(0, 1, 0, 1), 1);
        x.unbuckle(0);
        x.unbuckle(1);
        x.buckle(5, 0, 1, 0);
        x.buckle(1, 0, 1, 0);
        x.unbuckle(2);
        x.unbuckle(3);
        x.buckle(3, 1, 0, 0);
        Due.same("12 shared by two of three", x.bears(1, 0, 1, 100), 50);
        x.unbuckle(1);
        x.unbuckle(5);
        x.buckle(2, 0, 1, 0);
        Due.same("12 not shared with a longer one of a lower number", x.bears(3, 0, 1, 100), 100);
        for (int[] a : new int[][] {{6, 0, 0, 0}, {-1, 0, 1, 1}, {0, -1, 1, 1}, {0, 8, 1, 1}, {0, 1, -1, 1}, {0, 1, 8, 0}}) {
            Due.refuses("12 bears", Due.INDEX, t -> straps(t, 3, 3, 4, 3, 3, 5), t -> t.bears(a[0], a[1], a[2], a[3]));
        }
        for (int[] a : new int[][] {{0, 3, 3, 1}, {0, 1, 2, 0}, {0, 1, 2, 10000}, {0, 1, 2, -1}}) {
            Due.refuses("12 bears", Due.ARGUMENT, t -> straps(t, 3), t -> t.bears(a[0], a[1], a[2], a[3]));
        }
    }

    private static void isWay(String what, Saddletree x, int from, int to, int... rings) {
        for (int place = 0; place < 9; place++) {
            Due.same(what + ", place " + place, x.way(from, to, place), place < rings.length ? rings[place] : -1);
        }
        Due.same(what + ", far", x.way(from, to, Integer.MAX_VALUE), -1);
    }

    private static void way() {
        Saddletree x = new Saddletree();
        straps(x, 5, 5, 3, 4, 4, 3);
        isWay("13 there is no way", x, 0, 1);
        x.buckle(0, 0, 7, 0);
        isWay("13 one strap", x, 7, 0, 7, 0);
        x.buckle(2, 0, 3, 0);
        x.buckle(5, 3, 7, 0);
        isWay("13 the least sum", x, 0, 7, 0, 7);
        x.unbuckle(2);
        x.cut(0, 0, 1, 12, 1, true);
        x.pierce(6, 45);
        x.buckle(6, 3, 0, 0);
        isWay("13 the least sum", x, 3, 0, 3, 7, 0);
        x.unbuckle(6);
        x.buckle(2, 0, 3, 0);
        x.unbuckle(0);
        isWay("13 round", x, 7, 0, 7, 3, 0);
        isWay("13 there is no way", x, 0, 1);
        Due.Setup setup = t -> {
            straps(t, 3);
            t.buckle(0, 0, 1, 0);
        };
        for (int[] a : new int[][] {{-1, 0, 0}, {8, 8, 0}, {0, -1, 0}, {0, 8, 0}, {0, 1, -1}, {1, 1, -1},
                {0, 1, Integer.MIN_VALUE}}) {
            Due.refuses("13 way", Due.INDEX, setup, t -> t.way(a[0], a[1], a[2]));
        }
        Due.refuses("13 both rings are one", Due.ARGUMENT, setup, t -> t.way(1, 1, 0));
    }

    private static void wayOfSeveral() {
        Saddletree x = new Saddletree();
        x.hide(9);
        int[][] straps = {{0, 1, 3}, {1, 4, 6}, {0, 2, 4}, {2, 4, 5}, {0, 4, 9}, {0, 5, 3}, {5, 6, 3}, {6, 4, 3}};
        for (int i = 0; i < straps.length; i++) {
            x.cut(0, i % 4 * 3, i / 4, 3, 1, true);
            x.pierce(i, straps[i][2]);
            x.buckle(i, straps[i][0], straps[i][1], 0);
        }
        isWay("13 of several the fewest rings", x, 0, 4, 0, 4);
        x.unbuckle(4);
        isWay("13 of several the lowest next", x, 0, 4, 0, 1, 4);
        isWay("13 of several the lowest next, back", x, 4, 0, 4, 1, 0);
        x.unbuckle(0);
        isWay("13 the fewest rings ahead of the lowest", x, 0, 4, 0, 2, 4);
        x.unbuckle(2);
        isWay("13 a long one", x, 0, 4, 0, 5, 6, 4);
        chain();
        directions();
    }

    private static void chain() {
        Saddletree x = new Saddletree();
        x.hide(9);
        for (int i = 0; i < 7; i++) {
            x.cut(0, i % 4 * 3, i / 4, 3, 1, true);
            x.pierce(i, 9);
            x.buckle(i, i, i + 1, 0);
        }
        isWay("13 all rings", x, 0, 7, 0, 1, 2, 3, 4, 5, 6, 7);
        isWay("13 all rings back", x, 7, 0, 7, 6, 5, 4, 3, 2, 1, 0);
    }

    private static void directions() {
        Saddletree x = new Saddletree();
        x.hide(9);
        int[][] straps = {{0, 1}, {1, 6}, {6, 7}, {0, 2}, {2, 5}, {5, 7}};
        for (int i = 0; i < straps.length; i++) {
            x.cut(0, i * 2, 0, 2, 1, true);
            x.pierce(i, 3);
            x.buckle(i, straps[i][0], straps[i][1], 0);
        }
        isWay("13 the lowest next to the first", x, 0, 7, 0, 1, 6, 7);
        isWay("13 the lowest next to the first, from the other end", x, 7, 0, 7, 5, 2, 0);
    }

    private static void pull() {
        Saddletree x = new Saddletree();
        straps(x, 3, 3, 3, 4, 4, 4, 3, 3);
        for (int part = 0; part < 6; part++) {
            x.buckle(part, part < 3 ? 0 : 1, part < 3 ? 1 : 2, 0);
        }
        x.buckle(6, 0, 3, 0);
        x.buckle(7, 3, 2, 0);
        Due.same("14 nothing breaks", x.pull(0, 3, 135), 0);
        Due.same("14 wear", x.part(6, 5), 13);
        Due.same("14 the way by the least sum", x.way(0, 2, 1), 3);
        Due.same("14 the wear counts", x.pull(2, 0, 123), 1);
        Due.same("14 the one broke", x.part(6, 10), 1);
        Due.same("14 ahead of it nothing wears", x.part(7, 5), 0);
        Due.same("14 it goes another way", x.part(0, 5), 4);
        Due.same("14 it goes another way", x.part(5, 5), 4);
        Due.same("14 all break, one by one", x.pull(0, 1, 202), 3);
        Due.same("14 the other side", x.part(3, 10), 0);
        Due.same("14 wear of no way", x.part(0, 5), 4);

        Saddletree y = new Saddletree();
        straps(y, 3, 5, 3);
        y.buckle(0, 0, 1, 0);
        y.buckle(1, 0, 1, 0);
        y.buckle(2, 1, 2, 0);
        y.skive(0, 3);
        Due.same("14 the slack one takes over", y.pull(0, 2, 60), 1);
        Due.same("14 it broke", y.part(0, 10), 1);
        Due.same("14 its wear is as before", y.part(0, 5), 0);
        Due.same("14 the other wears", y.part(1, 5), 6);
        Due.same("14 and the next", y.part(2, 5), 6);
        lowestFirst();
        refusedPulls();
    }

    private static void lowestFirst() {
        Saddletree x = new Saddletree();
        straps(x, 3, 3, 6 - 1, 3);
        x.buckle(3, 0, 1, 0);
        x.buckle(1, 1, 2, 0);
        x.buckle(0, 1, 2, 0);
        x.buckle(2, 0, 2, 0);
        x.skive(2, 8);
        x.skive(3, 6);
        x.skive(1, 3);
        x.skive(0, 3);
        Due.same("14 the lowest number anywhere, alone", x.pull(0, 2, 46), 0);
        Due.same("14 only the direct one bore", x.part(2, 5), 4);
        x.unbuckle(2);
        Due.same("14 number 0, then 1 alone", x.pull(0, 2, 46), 2);
        Due.same("14 number 3 is not overborne when the way is gone", x.part(3, 10), 0);
    }

    private static void refusedPulls() {
        Due.Setup setup = t -> {
            straps(t, 3);
            t.buckle(0, 0, 1, 0);
        };
        for (int[] a : new int[][] {{-1, 0, 1}, {8, 8, 0}, {0, -1, 1}, {0, 8, 1}}) {
            Due.refuses("14 pull", Due.INDEX, setup, t -> t.pull(a[0], a[1], a[2]));
        }
        for (int[] a : new int[][] {{2, 2, 1}, {0, 1, 0}, {0, 1, 10000}, {2, 3, 0}}) {
            Due.refuses("14 pull", Due.ARGUMENT, setup, t -> t.pull(a[0], a[1], a[2]));
        }
        Due.refuses("14 there is no way", Due.STATE, setup, t -> t.pull(0, 2, 1));
    }

    private static void pullsThatWear() {
        Saddletree x = new Saddletree();
        straps(x, 3);
        x.buckle(0, 0, 1, 0);
        int[] strengths = {67, 61, 55, 50, 45, 41, 37, 34, 31, 28, 26, 24, 22, 20, 18, 17, 16, 15, 14, 13, 12, 11, 10, 9};
        for (int i = 0; i < strengths.length - 1; i++) {
            Due.same("15 holds what is left", x.holds(1, 0), strengths[i]);
            Due.same("14 just not too much", x.pull(0, 1, strengths[i]), 0);
        }
        Due.same("14 the strength is worn", x.part(0, 6), 9);
        x.skive(0, 7);
        Due.same("9 strength is at least 0", x.part(0, 6), 0);
        Due.same("15 it holds nothing", x.holds(0, 1), 0);
        Due.same("14 any force breaks it", x.pull(0, 1, 1), 1);
    }

    private static void holds() {
        Saddletree x = new Saddletree();
        straps(x, 3, 3, 4, 3, 3, 3, 4);
        Due.same("15 there is no way", x.holds(0, 1), -1);
        x.buckle(0, 0, 1, 0);
        Due.same("15 one", x.holds(0, 1), 67);
        x.buckle(1, 0, 1, 0);
        x.buckle(2, 0, 1, 0);
        Due.same("15 two share", x.holds(0, 1), 134);
        x.buckle(6, 1, 2, 0);
        Due.same("15 the weakest step", x.holds(0, 2), 134);
        x.buckle(3, 1, 0, 0);
        Due.same("15 the weakest step", x.holds(0, 2), 135);
        x.skive(1, 4);
        Due.same("15 the weakest strap of a step", x.holds(0, 2), 90);
        Due.same("15 as many do not break", x.pull(0, 2, 90), 0);
        Saddletree all = many();
        Due.same("15 at most 9999", all.holds(0, 1), 9999);
        Due.same("14 forty straps", all.pull(0, 1, 9999), 0);
        Due.same("14 each has its wear", all.part(39, 5), 25);
        Due.same("14 no one breaks", all.pull(0, 1, 9999), 0);
        for (int part = 0; part < 40; part++) {
            all.skive(part, 1);
        }
        Due.same("14 forty straps break", all.pull(1, 0, 9999), 40);
        Due.same("15 there is no way", all.holds(0, 1), -1);
        Due.refuses("15 holds", Due.INDEX, t -> straps(t, 3), t -> t.holds(8, 8));
        Due.refuses("15 holds", Due.INDEX, t -> straps(t, 3), t -> t.holds(-1, 0));
        Due.refuses("15 holds", Due.INDEX, t -> straps(t, 3), t -> t.holds(0, -1));
        Due.refuses("15 holds", Due.ARGUMENT, t -> straps(t, 3), t -> t.holds(7, 7));
    }

    private static Saddletree many() {
        Saddletree x = new Saddletree();
        for (int i = 0; i < 40; i++) {
            if (i % 6 == 0) {
                x.hide(9);
            }
            x.cut(i / 6, i % 6 * 2, 0, 2, 5, true);
            x.pierce(i, 4);
            x.buckle(i, 0, 1, 0);
            Due.same("15 more and more", x.holds(0, 1), Math.min(9999, 337 * (i + 1)));
        }
        return x;
    }

    private static void oil() {
        Saddletree x = new Saddletree();
        straps(x, 3, 3);
        x.buckle(0, 0, 1, 0);
        x.pull(0, 1, 50);
        Due.same("16 oil", x.oil(0), 2);
        Due.same("16 its wear", x.part(0, 5), 2);
        Due.same("16 oil", x.oil(0), 1);
        Due.same("16 oil", x.oil(0), 0);
        Due.same("16 oil", x.oil(0), 0);
        Due.same("16 oil of what never wore", x.oil(1), 0);
        x.pull(0, 1, 60);
        x.pull(0, 1, 9999);
        Due.same("16 oil of what broke", x.oil(0), 3);
        Due.refuses("16 oil", Due.INDEX, t -> straps(t, 3), t -> t.oil(1));
        Due.refuses("16 oil", Due.INDEX, t -> straps(t, 3), t -> t.oil(-1));
    }
}
