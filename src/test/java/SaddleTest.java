/** Promises 18 to 24: backs, trees, flock, and how a saddle sinks. */
public final class SaddleTest {
    public static void main(String[] args) {
        back();
        tree();
        flock();
        sinks();
        ofManySaddles();
        pressure();
        bridges();
        refusals();
        Due.end();
    }

    private static void back() {
        Saddletree x = new Saddletree();
        Due.same("18 back", x.back(5, 6, -50), 0);
        Due.same("18 back", x.back(5, 6, 50), -50);
        Due.same("18 back", x.back(5, 6, 0), 50);
        Due.same("18 of another horse", x.back(4, 6, 0), 0);
        Due.same("18 of another section", x.back(5, 5, 0), 0);
        Due.same("18 it is no tree", x.tree(5, 6, 0), 0);
        for (int[] a : new int[][] {{-1, 0, 0}, {6, 0, 99}, {0, -1, 0}, {0, 7, 99}}) {
            Due.refuses("18 back", Due.INDEX, t -> t.back(0, 0, 7), t -> t.back(a[0], a[1], a[2]));
            Due.refuses("19 tree", Due.INDEX, t -> t.tree(0, 0, 7), t -> t.tree(a[0], a[1], a[2]));
            Due.refuses("20 flock", Due.INDEX, t -> t.flock(0, 0, 7), t -> t.flock(a[0], a[1], a[2]));
        }
        for (int height : new int[] {-51, 51, Integer.MIN_VALUE, Integer.MAX_VALUE}) {
            Due.refuses("18 back", Due.ARGUMENT, t -> t.back(0, 0, 7), t -> t.back(0, 0, height));
            Due.refuses("19 tree", Due.ARGUMENT, t -> t.tree(0, 0, 7), t -> t.tree(0, 0, height));
        }
    }

    private static void tree() {
        Saddletree x = new Saddletree();
        Due.same("19 tree", x.tree(5, 6, -50), 0);
        Due.same("19 tree", x.tree(5, 6, 50), -50);
        Due.same("19 tree", x.tree(5, 6, 1), 50);
        Due.same("19 of another saddle", x.tree(4, 6, 0), 0);
        Due.same("19 it is no back", x.back(5, 6, 0), 0);
    }

    private static void flock() {
        Saddletree x = new Saddletree();
        Due.same("20 flock", x.flock(5, 6, 20), 0);
        Due.same("20 flock", x.flock(5, 6, 0), 20);
        Due.same("20 flock", x.flock(5, 6, 1), 0);
        Due.same("20 of another saddle", x.flock(4, 6, 0), 0);
        for (int flock : new int[] {-1, 21}) {
            Due.refuses("20 flock", Due.ARGUMENT, t -> t.flock(0, 0, 7), t -> t.flock(0, 0, flock));
        }
    }

    private static void sinksTo(String what, Saddletree x, int weight, int depth) {
        Due.same("21 " + what, x.sinks(1, 2, weight), depth);
        Due.same("22 " + what, x.sinksAnew(1, 2, weight), depth);
    }

    private static void sinks() {
        Saddletree x = new Saddletree();
        sinksTo("on all", x, 1, 1);
        sinksTo("on all", x, 28, 1);
        sinksTo("on all", x, 29, 2);
        sinksTo("on all", x, 3000, 108);
        x.tree(2, 0, 50);
        x.back(1, 0, -50);
        for (int section = 1; section < 6; section++) {
            x.tree(2, section, 50);
        }
        x.tree(2, 6, -50);
        x.back(1, 6, 50);
        x.flock(2, 6, 20);
        sinksTo("on one far below 0", x, 1, -119);
        sinksTo("on one far below 0", x, 4, -119);
        sinksTo("on one far below 0", x, 5, -118);
        sinksTo("just on one", x, 4 * 170, 50);
        sinksTo("then on six", x, 4 * 170 + 1, 51);
        sinksTo("on six", x, 4 * 170 + 4 * 6 * 49, 99);
        sinksTo("on all", x, 3000, 140);
    }

    private static void ofManySaddles() {
        int seed = 17;
        for (int round = 0; round < 300; round++) {
            Saddletree x = new Saddletree();
            int[] gaps = new int[7];
            for (int section = 0; section < 7; section++) {
                seed = seed * 1103515245 + 12345;
                int tree = (seed >>> 8) % 101 - 50;
                int back = (seed >>> 12) % 101 - 50;
                int flock = (seed >>> 16) % 21;
                x.tree(0, section, tree);
                x.back(0, section, back);
                x.flock(0, section, flock);
                gaps[section] = tree - flock - back;
            }
            int weight = 1 + (seed >>> 10) % 3000;
            int depth = -200;
            while (sum(gaps, depth) < weight) {
                depth++;
            }
            Due.same("21 sinks", x.sinks(0, 0, weight), depth);
            Due.same("22 sinksAnew", x.sinksAnew(0, 0, weight), depth);
            for (int section = 0; section < 7; section++) {
                Due.same("23 pressure", x.pressure(0, 0, weight, section), 4 * Math.max(0, depth - gaps[section]));
            }
        }
    }

    private static int sum(int[] gaps, int depth) {
        int sum = 0;
        for (int gap : gaps) {
            sum += 4 * Math.max(0, depth - gap);
        }
        return sum;
    }

    private static void pressure() {
        Saddletree x = new Saddletree();
        x.tree(2, 3, 5);
        Due.same("23 pressure", x.pressure(1, 2, 24, 0), 4);
        Due.same("23 above its gap only", x.pressure(1, 2, 120, 3), 0);
        Due.same("23 above its gap only", x.pressure(1, 2, 121, 3), 4);
        Due.same("23 more than the weight together", x.pressure(1, 2, 121, 6), 24);
        Due.same("23 of another saddle", x.pressure(1, 3, 121, 3), 20);
    }

    private static void bridges() {
        Saddletree x = new Saddletree();
        Due.same("24 none", x.bridges(1, 2, 300), 0);
        x.tree(2, 3, 10);
        Due.same("24 one", x.bridges(1, 2, 240), 8);
        Due.same("24 pressed down", x.bridges(1, 2, 241), 0);
        x.tree(2, 2, 30);
        x.tree(2, 4, 30);
        Due.same("24 three", x.bridges(1, 2, 30), 4 + 8 + 16);
        x.tree(2, 3, -10);
        Due.same("24 on both sides of one", x.bridges(1, 2, 100), 4 + 16);
        Due.same("24 only the one is pressed", x.bridges(1, 2, 40), 0);
        x.tree(2, 3, 30);
        x.tree(2, 0, 30);
        x.tree(2, 6, 30);
        Due.same("24 the ends are none", x.bridges(1, 2, 10), 4 + 8 + 16);
        x.tree(2, 5, 30);
        Due.same("24 none behind", x.bridges(1, 2, 10), 0);
        x.tree(2, 1, 30);
        x.tree(2, 0, 0);
        x.tree(2, 6, 0);
        Due.same("24 all between", x.bridges(1, 2, 8), 62);
    }

    private static void refusals() {
        for (int[] a : new int[][] {{-1, 0, 0}, {6, 0, 1}, {0, -1, 1}, {0, 6, 0}}) {
            Due.refuses("21 sinks", Due.INDEX, t -> t.back(0, 0, 1), t -> t.sinks(a[0], a[1], a[2]));
            Due.refuses("22 sinksAnew", Due.INDEX, t -> t.back(0, 0, 1), t -> t.sinksAnew(a[0], a[1], a[2]));
            Due.refuses("23 pressure", Due.INDEX, t -> t.back(0, 0, 1), t -> t.pressure(a[0], a[1], a[2], 0));
            Due.refuses("24 bridges", Due.INDEX, t -> t.back(0, 0, 1), t -> t.bridges(a[0], a[1], a[2]));
        }
        Due.refuses("23 pressure", Due.INDEX, t -> t.back(0, 0, 1), t -> t.pressure(0, 0, 0, 7));
        Due.refuses("23 pressure", Due.INDEX, t -> t.back(0, 0, 1), t -> t.pressure(0, 0, 1, -1));
        for (int weight : new int[] {0, 3001, -1}) {
            Due.refuses("21 sinks", Due.ARGUMENT, t -> t.back(0, 0, 1), t -> t.sinks(0, 0, weight));
            Due.refuses("22 sinksAnew", Due.ARGUMENT, t -> t.back(0, 0, 1), t -> t.sinksAnew(0, 0, weight));
            Due.refuses("23 pressure", Due.ARGUMENT, t -> t.back(0, 0, 1), t -> t.pressure(0, 0, weight, 6));
            Due.refuses("24 bridges", Due.ARGUMENT, t -> t.back(0, 0, 1), t -> t.bridges(0, 0, weight));
        }
    }
}
