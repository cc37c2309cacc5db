/** Promises 25 to 30: rides, sores, rest and causes. */
public final class RideTest {
    public static void main(String[] args) {
        ride();
        flockSettles();
        lameHorses();
        sixtyRides();
        refusedRides();
        rest();
        sore();
        share();
        cause();
        Due.end();
    }

    /** Section 2 of saddle 1 stands out by 30, so that it alone bears up to 120 on a flat back. */
    private static void standOut(Saddletree x) {
        x.tree(1, 2, -30);
    }

    private static void ride() {
        Saddletree x = new Saddletree();
        standOut(x);
        Due.same("25 a pressure of 40 makes no sore", x.ride(0, 1, 3, 40, 1, 10), 0);
        Due.same("25 not sore", x.sore(0, 2, 0), 0);
        Due.same("25 one above 40", x.ride(0, 1, 3, 41, 1, 2), 1);
        Due.same("25 sore by 4 times 2 hours", x.sore(0, 2, 0), 8);
        Due.same("25 the weight times the gait", x.ride(0, 1, 3, 20, 3, 1), 1);
        Due.same("25 sorer", x.sore(0, 2, 0), 28);
        Due.same("25 the others are not", x.sore(0, 1, 0), 0);
        Due.same("25 another horse is not", x.sore(1, 2, 0), 0);
        Due.same("25 rides", x.rides(), 3);
        Due.same("25 all of them", x.ride(1, 0, 0, 1000, 1, 1), 7);
        Due.same("25 each", x.sore(1, 6, 0), 104);
    }

    private static void flockSettles() {
        Saddletree x = new Saddletree();
        standOut(x);
        for (int section = 0; section < 7; section++) {
            x.flock(1, section, section == 3 ? 0 : 1);
        }
        // gaps -1 -1 -31 0 -1 -1 -1, so that a weight of 21 presses 24 on section 2 alone
        Due.same("25 no sore, but it settles", x.ride(0, 1, 0, 21, 1, 1), 0);
        Due.same("25 settled", x.flock(1, 2, 1), 0);
        Due.same("25 not pressed", x.flock(1, 1, 1), 1);
        x.ride(0, 1, 0, 20, 1, 1);
        Due.same("25 a pressure of 20 settles nothing", x.flock(1, 2, 1), 1);
        Due.same("25 the sores are of the pressures ahead", x.ride(0, 1, 0, 60, 1, 1), 1);
        Due.same("25 the sores are of the pressures ahead", x.sore(0, 2, 0), 20);
        x.rest(100);
        x.ride(0, 1, 0, 1000, 1, 1);
        Due.same("25 there was none", x.flock(1, 3, 0), 0);
        Due.same("25 settled to 0", x.flock(1, 1, 1), 0);
        x.flock(1, 2, 20);
        x.rest(100);
        x.ride(0, 1, 0, 30, 1, 1);
        Due.same("25 by 1", x.flock(1, 2, 0), 19);
        Due.same("25 another saddle has its own", x.flock(0, 2, 0), 0);
    }

    private static void lameHorses() {
        Saddletree x = new Saddletree();
        standOut(x);
        x.ride(2, 1, 0, 32, 2, 4);
        Due.same("25 sore", x.sore(2, 2, 0), 96);
        Due.same("27 not lame by less than 100", x.sore(2, 2, 2), 0);
        x.ride(2, 1, 0, 44, 1, 1);
        Due.same("27 lame by 100", x.sore(2, 2, 0), 100);
        Due.same("27 lame, asked at any section", x.sore(2, 5, 2), 1);
        Due.same("25 lame", Due.outcome(x, t -> t.ride(2, 1, 0, 1, 1, 1)), "IllegalStateException");
        Due.same("25 another horse is not", x.ride(3, 1, 0, 1, 1, 1), 0);
        Due.same("30 a ride that is refused is none", x.rides(), 3);
        Due.same("26 rest", x.rest(1), 0);
        Due.same("25 lame no more", x.ride(2, 1, 0, 1, 1, 1), 0);
    }

    private static void sixtyRides() {
        Saddletree x = new Saddletree();
        for (int i = 0; i < 60; i++) {
            Due.same("30 rides", x.rides(), i);
            x.ride(i % 6, i % 5, i % 4, 1, 1, 1);
        }
        Due.same("25 a ride too many", Due.outcome(x, t -> t.ride(0, 0, 0, 1, 1, 1)), "IllegalStateException");
        Due.same("30 rides", x.rides(), 60);
        Due.refuses("25 a ride too many", Due.STATE, t -> {
            for (int i = 0; i < 60; i++) {
                t.ride(0, 0, 0, 1, 1, 1);
            }
        }, t -> t.ride(0, 0, 0, 1000, 3, 10));
    }

    private static void refusedRides() {
        Due.Setup setup = t -> {
            standOut(t);
            t.flock(1, 2, 9);
            t.ride(1, 1, 0, 1000, 3, 10);
        };
        for (int[] a : new int[][] {{-1, 0, 0, 0, 0, 0}, {6, 0, 0, 1, 1, 1}, {0, -1, 0, 1, 1, 1}, {0, 6, 0, 1, 1, 1},
                {0, 0, -1, 1, 1, 1}, {1, 0, 4, 1, 1, 0}}) {
            Due.refuses("25 ride", Due.INDEX, setup, t -> t.ride(a[0], a[1], a[2], a[3], a[4], a[5]));
        }
        for (int[] a : new int[][] {{0, 1, 1}, {1001, 1, 1}, {1, 0, 1}, {1, 4, 1}, {1, 1, 0}, {1, 1, 11}}) {
            Due.refuses("25 ride", Due.ARGUMENT, setup, t -> t.ride(0, 1, 0, a[0], a[1], a[2]));
            Due.refuses("25 ride of a lame one", Due.ARGUMENT, setup, t -> t.ride(1, 1, 0, a[0], a[1], a[2]));
        }
        Due.refuses("25 lame", Due.STATE, setup, t -> t.ride(1, 1, 0, 100, 1, 1));
    }

    private static void rest() {
        Saddletree x = new Saddletree();
        standOut(x);
        x.ride(0, 1, 0, 120, 1, 2);
        x.ride(1, 1, 0, 120, 1, 10);
        x.ride(2, 1, 0, 45, 1, 1);
        Due.same("26 rest", x.rest(6), 2);
        Due.same("26 ten a day", x.sore(0, 2, 0), 100);
        Due.same("26 ten a day", x.sore(1, 2, 0), 740);
        Due.same("26 all of one that is less", x.sore(2, 2, 0), 0);
        Due.same("26 rest", x.rest(1), 1);
        Due.same("26 rest", x.rest(64), 0);
        Due.same("26 ten a day", x.sore(1, 2, 0), 90);
        Due.same("26 rest", x.rest(100), 0);
        Due.same("26 none is below 0", x.sore(1, 2, 0), 0);
        x.ride(3, 0, 0, 490, 1, 1);
        x.rest(2);
        for (int section = 0; section < 7; section++) {
            Due.same("26 each section", x.sore(3, section, 0), 72 - 40 - 20);
        }
        for (int days : new int[] {0, 101, -1, Integer.MAX_VALUE}) {
            Due.refuses("26 rest", Due.ARGUMENT, t -> t.ride(0, 0, 0, 900, 1, 1), t -> t.rest(days));
        }
    }

    private static void sore() {
        Saddletree x = new Saddletree();
        x.back(4, 5, -17);
        Due.same("27 sore", x.sore(4, 5, 0), 0);
        Due.same("27 the height of the back", x.sore(4, 5, 1), -17);
        Due.same("27 lame", x.sore(4, 5, 2), 0);
        for (int[] a : new int[][] {{-1, 0, 0}, {6, 0, 3}, {0, -1, 0}, {0, 7, -1}}) {
            Due.refuses("27 sore", Due.INDEX, t -> t.rest(1), t -> t.sore(a[0], a[1], a[2]));
            Due.refuses("28 share", Due.INDEX, t -> t.rest(1), t -> t.share(a[0], a[1], a[2], 0));
            Due.refuses("29 cause", Due.INDEX, t -> t.rest(1), t -> t.cause(a[0], a[1], a[2]));
        }
        for (int what : new int[] {-1, 3}) {
            Due.refuses("27 sore", Due.ARGUMENT, t -> t.rest(1), t -> t.sore(0, 0, what));
            Due.refuses("28 share", Due.ARGUMENT, t -> t.rest(1), t -> t.share(0, 0, what, 0));
            Due.refuses("28 share", Due.ARGUMENT, t -> t.rest(1), t -> t.share(0, 0, what, 99));
            Due.refuses("29 cause", Due.ARGUMENT, t -> t.rest(1), t -> t.cause(0, 0, what));
        }
    }

    private static Saddletree ridden() {
        Saddletree x = new Saddletree();
        for (int saddle = 0; saddle < 6; saddle++) {
            x.tree(saddle, 2, -30);
        }
        x.ride(0, 5, 3, 20, 3, 1); // 20
        x.ride(0, 4, 3, 30, 2, 1); // 20
        x.rest(1);
        x.ride(0, 4, 0, 48, 1, 1); // 8
        x.ride(0, 2, 1, 24, 2, 3); // 24
        x.ride(1, 2, 2, 40, 2, 1); // 40, of another horse
        return x;
    }

    private static void share() {
        Saddletree x = ridden();
        int[][] due = {{0, 0, 24, 0, 28, 20}, {8, 24, 0, 40, 0, 0}, {0, 8, 44, 20, 0, 0}};
        for (int by = 0; by < 3; by++) {
            for (int who = 0; who < 6; who++) {
                Due.same("28 share by " + by + " of " + who, x.share(0, 2, by, who), due[by][who]);
                Due.same("28 of another section", x.share(0, 3, by, who), 0);
            }
            for (int who : new int[] {-1, 6, Integer.MIN_VALUE, Integer.MAX_VALUE}) {
                Due.same("28 of one that there is not", x.share(0, 2, by, who), 0);
            }
        }
        x.rest(100);
        Due.same("28 rest takes nothing of it", x.share(0, 2, Saddletree.BY_SADDLE, 4), 28);
        Due.same("28 of another horse", x.share(1, 2, Saddletree.BY_RIDER, 2), 40);
        Due.same("28 of another horse", x.share(0, 2, Saddletree.BY_RIDER, 2), 0);
    }

    private static void cause() {
        Saddletree x = ridden();
        Due.same("29 by saddle", x.cause(0, 2, Saddletree.BY_SADDLE), 4);
        Due.same("29 by rider", x.cause(0, 2, Saddletree.BY_RIDER), 3);
        Due.same("29 by gait", x.cause(0, 2, Saddletree.BY_GAIT), 2);
        Due.same("29 of another horse", x.cause(1, 2, Saddletree.BY_SADDLE), 2);
        for (int by = 0; by < 3; by++) {
            Due.same("29 all shares are 0", x.cause(0, 3, by), -1);
        }
        x.ride(0, 2, 0, 44, 1, 1); // 4, so that saddles 2 and 4 have 28 both
        Due.same("29 of several the lowest", x.cause(0, 2, Saddletree.BY_SADDLE), 2);
        x.rest(100);
        Due.same("29 however much rest took", x.cause(0, 2, Saddletree.BY_SADDLE), 2);
        Saddletree y = new Saddletree();
        y.ride(3, 0, 0, 1000, 3, 1);
        Due.same("29 saddle 0", y.cause(3, 0, Saddletree.BY_SADDLE), 0);
        Due.same("29 rider 0", y.cause(3, 0, Saddletree.BY_RIDER), 0);
        Due.same("29 gait 3", y.cause(3, 0, Saddletree.BY_GAIT), 3);
    }
}
