import java.util.ArrayList;
import java.util.Collections;
import java.util.List;

/**
 * The document once more, written as slowly and plainly as its words: all ways are tried, all forces, all depths, and
 * shares are summed over a ledger of rides. RandomRunsTest compares the class with it.
 */
final class PlainModel {
    static final class Piece {
        int columns;
        int rows;
        int row;
        int thickness;
        int wear;
        int seams;
        boolean strap;
        boolean broke;
        List<Integer> holes = new ArrayList<>();
        List<Integer> rings = new ArrayList<>();
        int length = -1;

        int strength() {
            int strength = 10 * rows * thickness;
            if (!holes.isEmpty()) {
                strength = (int) Math.floor(strength * 0.75);
            }
            return strength - wear < 0 ? 0 : strength - wear;
        }

        boolean joins(int one, int other) {
            return rings.contains(one) && rings.contains(other);
        }
    }

    /** horse, section, saddle, rider, gait, how much sorer. */
    private final List<int[]> ledger = new ArrayList<>();
    private final List<Integer> hides = new ArrayList<>();
    private final List<boolean[][]> gone = new ArrayList<>();
    private final List<Piece> pieces = new ArrayList<>();
    private final int[][] backs = new int[6][7];
    private final int[][] trees = new int[6][7];
    private final int[][] flocks = new int[6][7];
    private final int[][] sores = new int[6][7];
    private int rides = 0;

    private static void index(boolean isThere) {
        if (!isThere) {
            throw new IndexOutOfBoundsException();
        }
    }

    private static void argument(boolean isRight) {
        if (!isRight) {
            throw new IllegalArgumentException();
        }
    }

    private static void state(boolean isRight) {
        if (!isRight) {
            throw new IllegalStateException();
        }
    }

    private static boolean in(int value, int least, int most) {
        return least <= value && value <= most;
    }

    private void hideIs(int hide) {
        index(in(hide, 0, hides.size() - 1));
    }

    private Piece piece(int part) {
        index(in(part, 0, pieces.size() - 1));
        return pieces.get(part);
    }

    int hide(int thickness) {
        argument(in(thickness, 2, 9));
        state(hides.size() < 8);
        hides.add(thickness);
        gone.add(new boolean[12][8]);
        return hides.size() - 1;
    }

    int fault(int hide, int column, int row) {
        hideIs(hide);
        index(in(column, 0, 11) && in(row, 0, 7));
        gone.get(hide)[column][row] = true;
        int left = 0;
        for (boolean[] squares : gone.get(hide)) {
            for (boolean square : squares) {
                left += square ? 0 : 1;
            }
        }
        return left;
    }

    private boolean cuttable(int hide, int column, int row, int along, int wide, boolean strap) {
        for (int c = column; c < column + along; c++) {
            for (int r = row; r < row + wide; r++) {
                if (c > 11 || r > 7 || gone.get(hide)[c][r] || strap && r >= 5) {
                    return false;
                }
            }
        }
        return true;
    }

    private int thinnest(int hide, int row, int wide) {
        int thinnest = 99;
        for (int r = row; r < row + wide; r++) {
            thinnest = Math.min(thinnest, hides.get(hide) - (r >= 5 ? 1 : 0));
        }
        return thinnest;
    }

    int cut(int hide, int column, int row, int along, int wide, boolean strap) {
        hideIs(hide);
        index(in(column, 0, 11) && in(row, 0, 7));
        argument(in(along, 1, 12) && in(wide, 1, 8) && column + along <= 12 && row + wide <= 8);
        state(cuttable(hide, column, row, along, wide, strap) && pieces.size() < 40);
        Piece piece = new Piece();
        piece.columns = along;
        piece.rows = wide;
        piece.row = row;
        piece.thickness = thinnest(hide, row, wide);
        piece.strap = strap;
        for (int c = column; c < column + along; c++) {
            for (int r = row; r < row + wide; r++) {
                gone.get(hide)[c][r] = true;
            }
        }
        pieces.add(piece);
        return pieces.size() - 1;
    }

    int find(int hide, int along, int wide, boolean strap, int least) {
        hideIs(hide);
        argument(in(along, 1, 12) && in(wide, 1, 8) && in(least, 1, 9));
        int best = Integer.MAX_VALUE;
        for (int row = 0; row < 8; row++) {
            for (int column = 0; column < 12; column++) {
                if (cuttable(hide, column, row, along, wide, strap) && thinnest(hide, row, wide) >= least) {
                    int worth = 0;
                    for (int r = row; r < row + wide; r++) {
                        worth += along * (r <= 1 ? 3 : r >= 5 ? 1 : 2);
                    }
                    best = Math.min(best, worth * 1000 + 12 * row + column);
                }
            }
        }
        return best == Integer.MAX_VALUE ? -1 : best % 1000;
    }

    int skive(int part, int thickness) {
        Piece piece = piece(part);
        argument(in(thickness, 1, 8) && thickness < piece.thickness);
        state(piece.seams == 0);
        int before = piece.thickness;
        piece.thickness = thickness;
        return before;
    }

    int pierce(int part, int place) {
        Piece piece = piece(part);
        argument(place >= 3 && place <= 4 * piece.columns - 3);
        for (int hole : piece.holes) {
            state(Math.abs(hole - place) >= 2);
        }
        state(piece.seams == 0 && piece.rings.isEmpty() && !piece.broke);
        piece.holes.add(place);
        Collections.sort(piece.holes);
        return piece.holes.indexOf(place);
    }

    int match(int one, int other) {
        Piece a = piece(one);
        Piece b = piece(other);
        return a.strap == b.strap && a.columns == b.columns && a.rows == b.rows && a.thickness == b.thickness
                && a.row == b.row ? 1 : 0;
    }

    int part(int part, int what) {
        Piece p = piece(part);
        argument(in(what, 0, 10));
        int lower = p.rings.isEmpty() ? -1 : Collections.min(p.rings);
        int greater = p.rings.isEmpty() ? -1 : Collections.max(p.rings);
        return new int[] {p.columns, p.rows, p.thickness, p.row, p.holes.size(), p.wear, p.strength(), lower, greater,
                p.length, p.broke ? 1 : 0}[what];
    }

    int buckle(int part, int ring, int other, int hole) {
        Piece piece = piece(part);
        index(in(ring, 0, 7) && in(other, 0, 7) && in(hole, 0, piece.holes.size() - 1));
        argument(ring != other);
        state(piece.strap && piece.rings.isEmpty() && !piece.broke);
        piece.rings.add(ring);
        piece.rings.add(other);
        piece.length = piece.holes.get(hole);
        return piece.length;
    }

    int unbuckle(int part) {
        Piece piece = piece(part);
        state(!piece.rings.isEmpty());
        int length = piece.length;
        piece.rings.clear();
        piece.length = -1;
        return length;
    }

    private int shortest(int one, int other) {
        int shortest = 9999;
        for (Piece piece : pieces) {
            if (piece.joins(one, other)) {
                shortest = Math.min(shortest, piece.length);
            }
        }
        return shortest;
    }

    /** All ways are tried; each is told by sum, rings and their order as text that sorts as the document asks. */
    private void tryWays(List<Integer> way, int to, int sum, List<String> found) {
        int at = way.get(way.size() - 1);
        if (at == to) {
            StringBuilder text = new StringBuilder().append(10000 + sum).append(way.size());
            for (int ring : way) {
                text.append(ring);
            }
            found.add(text.toString());
            return;
        }
        for (int next = 0; next < 8; next++) {
            if (!way.contains(next) && lengths[at][next] < 9999) {
                way.add(next);
                tryWays(way, to, sum + lengths[at][next], found);
                way.remove(way.size() - 1);
            }
        }
    }

    private final int[][] lengths = new int[8][8];

    private List<Integer> wayOf(int from, int to) {
        for (int one = 0; one < 8; one++) {
            for (int other = 0; other < 8; other++) {
                lengths[one][other] = one == other ? 9999 : shortest(one, other);
            }
        }
        List<String> found = new ArrayList<>();
        List<Integer> way = new ArrayList<>();
        way.add(from);
        tryWays(way, to, 0, found);
        List<Integer> best = new ArrayList<>();
        if (!found.isEmpty()) {
            for (char ring : Collections.min(found).substring(6).toCharArray()) {
                best.add(ring - '0');
            }
        }
        return best;
    }

    private int borne(Piece piece, List<Integer> way, int force) {
        for (int i = 0; i + 1 < way.size(); i++) {
            if (piece.joins(way.get(i), way.get(i + 1)) && piece.length == shortest(way.get(i), way.get(i + 1))) {
                int sharing = 0;
                for (Piece other : pieces) {
                    sharing += other.joins(way.get(i), way.get(i + 1)) && other.length == piece.length ? 1 : 0;
                }
                return (int) Math.ceil((double) force / sharing);
            }
        }
        return 0;
    }

    private void rings(int from, int to) {
        index(in(from, 0, 7) && in(to, 0, 7));
        argument(from != to);
    }

    int bears(int part, int from, int to, int force) {
        Piece piece = piece(part);
        rings(from, to);
        argument(in(force, 1, 9999));
        return borne(piece, wayOf(from, to), force);
    }

    int way(int from, int to, int place) {
        index(in(from, 0, 7) && in(to, 0, 7) && place >= 0);
        argument(from != to);
        List<Integer> way = wayOf(from, to);
        return place < way.size() ? way.get(place) : -1;
    }

    int pull(int from, int to, int force) {
        rings(from, to);
        argument(in(force, 1, 9999));
        List<Integer> way = wayOf(from, to);
        state(!way.isEmpty());
        int broken = 0;
        while (true) {
            Piece weak = null;
            for (Piece piece : pieces) {
                if (weak == null && borne(piece, way, force) > piece.strength()) {
                    weak = piece;
                }
            }
            if (weak == null) {
                break;
            }
            weak.broke = true;
            weak.rings.clear();
            weak.length = -1;
            broken++;
            way = wayOf(from, to);
        }
        for (Piece piece : pieces) {
            piece.wear += borne(piece, way, force) / 10;
        }
        return broken;
    }

    int holds(int from, int to) {
        rings(from, to);
        List<Integer> way = wayOf(from, to);
        if (way.isEmpty()) {
            return -1;
        }
        int least = 0;
        int most = 9999;
        while (least < most) {
            int force = (least + most + 1) / 2;
            boolean breaks = false;
            for (Piece piece : pieces) {
                breaks |= borne(piece, way, force) > piece.strength();
            }
            if (breaks) {
                most = force - 1;
            } else {
                least = force;
            }
        }
        return least;
    }

    int oil(int part) {
        Piece piece = piece(part);
        piece.wear -= (piece.wear + 1) / 2;
        return piece.wear;
    }

    int sew(int one, int other, int pricks, int thread) {
        Piece a = piece(one);
        Piece b = piece(other);
        argument(a != b && in(pricks, 1, 12) && in(thread, 1, 50));
        for (Piece piece : List.of(a, b)) {
            state(piece.seams < 4 && piece.rings.isEmpty() && !piece.broke);
        }
        a.seams++;
        b.seams++;
        int columns = Math.min(a.columns, b.columns);
        return Math.min(pricks * columns * thread, Math.min(a.thickness, b.thickness) * (20 - pricks) * columns);
    }

    private static int set(int[][] heights, int number, int section, int value, int least, int most) {
        index(in(number, 0, 5) && in(section, 0, 6));
        argument(in(value, least, most));
        int before = heights[number][section];
        heights[number][section] = value;
        return before;
    }

    int back(int horse, int section, int height) {
        return set(backs, horse, section, height, -50, 50);
    }

    int tree(int saddle, int section, int height) {
        return set(trees, saddle, section, height, -50, 50);
    }

    int flock(int saddle, int section, int flock) {
        return set(flocks, saddle, section, flock, 0, 20);
    }

    private int[] pressures(int horse, int saddle, int weight) {
        int[] pressures = new int[7];
        for (int depth = -200; ; depth++) {
            int sum = 0;
            for (int s = 0; s < 7; s++) {
                int gap = trees[saddle][s] - flocks[saddle][s] - backs[horse][s];
                pressures[s] = depth > gap ? 4 * (depth - gap) : 0;
                sum += pressures[s];
            }
            if (sum >= weight) {
                return pressures;
            }
        }
    }

    int sinks(int horse, int saddle, int weight) {
        index(in(horse, 0, 5) && in(saddle, 0, 5));
        argument(in(weight, 1, 3000));
        int[] pressures = pressures(horse, saddle, weight);
        for (int s = 0; s < 7; s++) {
            if (pressures[s] > 0) {
                return pressures[s] / 4 + trees[saddle][s] - flocks[saddle][s] - backs[horse][s];
            }
        }
        throw new AssertionError("no section bears a weight");
    }

    int pressure(int horse, int saddle, int weight, int section) {
        index(in(horse, 0, 5) && in(saddle, 0, 5) && in(section, 0, 6));
        argument(in(weight, 1, 3000));
        return pressures(horse, saddle, weight)[section];
    }

    int bridges(int horse, int saddle, int weight) {
        index(in(horse, 0, 5) && in(saddle, 0, 5));
        argument(in(weight, 1, 3000));
        int[] p = pressures(horse, saddle, weight);
        int bits = 0;
        for (int s = 0; s < 7; s++) {
            for (int ahead = 0; ahead < s; ahead++) {
                for (int behind = s + 1; behind < 7; behind++) {
                    bits |= p[s] == 0 && p[ahead] > 0 && p[behind] > 0 ? 1 << s : 0;
                }
            }
        }
        return bits;
    }

    private boolean lame(int horse) {
        boolean lame = false;
        for (int sore : sores[horse]) {
            lame |= sore >= 100;
        }
        return lame;
    }

    int ride(int horse, int saddle, int rider, int weight, int gait, int hours) {
        index(in(horse, 0, 5) && in(saddle, 0, 5) && in(rider, 0, 3));
        argument(in(weight, 1, 1000) && in(gait, 1, 3) && in(hours, 1, 10));
        state(!lame(horse) && rides < 60);
        rides++;
        int[] p = pressures(horse, saddle, weight * gait);
        int sorer = 0;
        for (int s = 0; s < 7; s++) {
            if (p[s] > 40) {
                int amount = (p[s] - 40) * hours;
                sores[horse][s] += amount;
                ledger.add(new int[] {horse, s, saddle, rider, gait, amount});
                sorer++;
            }
            flocks[saddle][s] = p[s] > 20 ? Math.max(0, flocks[saddle][s] - 1) : flocks[saddle][s];
        }
        return sorer;
    }

    int rest(int days) {
        argument(in(days, 1, 100));
        int lame = 0;
        for (int horse = 0; horse < 6; horse++) {
            for (int day = 0; day < days; day++) {
                for (int s = 0; s < 7; s++) {
                    sores[horse][s] -= Math.min(10, sores[horse][s]);
                }
            }
            lame += lame(horse) ? 1 : 0;
        }
        return lame;
    }

    int sore(int horse, int section, int what) {
        index(in(horse, 0, 5) && in(section, 0, 6));
        argument(in(what, 0, 2));
        return new int[] {sores[horse][section], backs[horse][section], lame(horse) ? 1 : 0}[what];
    }

    int share(int horse, int section, int by, int who) {
        index(in(horse, 0, 5) && in(section, 0, 6));
        argument(in(by, 0, 2));
        int share = 0;
        for (int[] line : ledger) {
            share += line[0] == horse && line[1] == section && line[2 + by] == who ? line[5] : 0;
        }
        return share;
    }

    int cause(int horse, int section, int by) {
        index(in(horse, 0, 5) && in(section, 0, 6));
        argument(in(by, 0, 2));
        int found = -1;
        for (int who = 5; who >= 0; who--) {
            int share = share(horse, section, by, who);
            if (share > 0 && (found < 0 || share >= share(horse, section, by, found))) {
                found = who;
            }
        }
        return found;
    }

    int rides() {
        return rides;
    }
}
