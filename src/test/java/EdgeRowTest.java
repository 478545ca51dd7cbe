/** Edges of SLOTS and of promises 69 to 71. */
public final class EdgeRowTest {
    /** At step s it is in s, and at 5 out, by every law: laws() is 15 if a row tells so, and 0 if another cell of the land. */
    private static final String LAND = Edge.head(5, 1, 0, 0, 0) + Edge.flight(0, 1, 1);

    /** By law 0 it goes inward, for twenty steps always to another cell. */
    private static final int[] WAY = {0, 1, 2, 3, 4, 9, 14, 19, 18, 17, 16, 15, 10, 5, 6, 7, 8, 13, 12, 11};
    private static final String SPIRAL = Edge.head(5, 4, 0, 0, 0) + Edge.flight(0, 1, 1) + Edge.lamps(4, 19, 15, 5, 8, 13);

    public static void main(String[] args) {
        p69Row();
        p69Refused();
        p69InPlace();
        p70Write();
        p70Refused();
        p70Cut();
        p71Paste();
        p71Over();
        p71Refused();
        p71Order();
        p71None();
        Check.finish();
    }

    private static GooseShares made() {
        return Check.with(LAND);
    }

    /** Rows of like width in 0 and 1, of another in 2, nothing in 3. */
    private static GooseShares rows() {
        GooseShares x = made();
        Check.row(x, 0, 1, 0, 1, 1, 0, 2, 2);
        Check.row(x, 1, 1, 0, 3, 3);
        Check.row(x, 2, 2, 0, 4, 4);
        return x;
    }

    private static void p69Row() {
        for (int slot = 0; slot < 4; slot++) {
            for (int width = 0; width < 4; width++) {
                for (int n : new int[] {0, 1, 3, 59, 60}) {
                    GooseShares x = made();
                    Check.due("P69 row(" + slot + ", " + width + ", " + n + ")", x.row(slot, width, n), 0);
                    Check.due("P66 one row", x.count(11), 1);
                    Check.due("P69 its length", Edge.lengthOf(x, slot), n);
                    Check.due("P69 all 0", x.laws(slot), n % 3 == 0 ? 15 : -2);
                    Check.due("P70 beyond", x.write(slot, n, 0), -7);
                    Check.due("P70 its last", x.write(slot, n - 1, 0), n == 0 ? -7 : 0);
                    int other = (slot + 1) % 4;
                    x.row(other, width, 0);
                    Check.due("P71 of one width", x.paste(slot, 0, other, 0, 0), 0);
                    x.row(other, (width + 1) % 4, 0);
                    Check.due("P71 of another width", x.paste(slot, 0, other, 0, 0), -8);
                }
            }
        }
    }

    private static void p69Refused() {
        Edge.Make[] makes = {EdgeRowTest::made, EdgeRowTest::rows, GooseShares::new};
        for (Edge.Make make : makes) {
            for (int wrong : new int[] {-1, 4, Integer.MIN_VALUE, Integer.MAX_VALUE}) {
                Edge.refused("P69 slot " + wrong, make, x -> x.row(wrong, 0, 3), -2);
                Edge.refused("P69 width " + wrong, make, x -> x.row(0, wrong, 3), -2);
                Edge.refused("P69 slot " + wrong + " ahead of -3", make, x -> x.row(wrong, 0, -1), -2);
                Edge.refused("P69 width " + wrong + " ahead of -3", make, x -> x.row(0, wrong, -1), -2);
            }
            for (int n : new int[] {61, 62, Integer.MAX_VALUE}) {
                Edge.refused("P69 n " + n, make, x -> x.row(0, 0, n), -2);
                Edge.refused("P69 n " + n, make, x -> x.row(3, 3, n), -2);
            }
            for (int n : new int[] {-1, -2, Integer.MIN_VALUE}) {
                Edge.refused("P69 n " + n, make, x -> x.row(0, 0, n), -3);
                Edge.refused("P69 n " + n, make, x -> x.row(3, 3, n), -3);
            }
        }
    }

    private static void p69InPlace() {
        GooseShares x = rows();
        Check.due("P69 the same anew", x.row(1, 1, 3), 0);
        x.write(1, 1, 3);
        Check.due("P69 all are 0 again, but one", x.laws(1), 0);
        x.write(1, 1, 0);
        Check.due("P69 all are 0 again", x.laws(1), 15);
        Check.due("P69 longer", x.row(1, 1, 60), 0);
        Check.due("P69 all 0", x.laws(1), 15);
        x.write(1, 59, 4);
        Check.due("P69 shorter", x.row(1, 1, 3), 0);
        Check.due("P69 longer again", x.row(1, 1, 60), 0);
        Check.due("P69 nothing is left of it", x.laws(1), 15);
        Check.due("P69 of another width", x.row(1, 2, 3), 0);
        Check.due("P71 of one width with 2 now", x.paste(1, 0, 2, 0, 3), 0);
        Check.due("P71 not with 0", x.paste(1, 0, 0, 0, 3), -8);
        Check.due("P66 three rows as before", x.count(11), 3);
        Check.due("P69 the others stay", x.laws(0), 15);
    }

    private static void p70Write() {
        GooseShares x = made();
        x.row(0, 0, 60);
        for (int i = 0; i < 60; i += 3) {
            int step = i / 3 % 5;
            Check.due("P70 write", x.write(0, i + 1, step), 0);
            Check.due("P70 not yet there", x.laws(0), step == 0 ? 15 : 0);
            Check.due("P70 write", x.write(0, i + 2, step), 0);
            Check.due("P70 there", x.laws(0), 15);
        }
        // One number alone is written.
        for (int i = 0; i < 60; i++) {
            long was = i % 3 == 0 ? 0 : i / 3 % 5;
            x.write(0, i, 99);
            Check.due("P70 number " + i, x.laws(0), -2);
            x.write(0, i, was);
            Check.due("P70 number " + i + " as it was", x.laws(0), 15);
        }
    }

    private static void p70Refused() {
        for (int i : new int[] {-1, 6, 60, Integer.MIN_VALUE, Integer.MAX_VALUE}) {
            Edge.refused("P70 number " + i, EdgeRowTest::rows, x -> x.write(0, i, 1), -7);
            Edge.refused("P70 nothing, ahead of number " + i, EdgeRowTest::rows, x -> x.write(3, i, 1), -6);
            Edge.refused("P70 no slot, ahead of number " + i, EdgeRowTest::rows, x -> x.write(4, i, 1), -2);
        }
        Edge.refused("P70 nothing", EdgeRowTest::rows, x -> x.write(3, 0, 1), -6);
        Edge.refused("P70 nothing", GooseShares::new, x -> x.write(0, 0, 1), -6);
        for (int slot : new int[] {-1, 4, Integer.MIN_VALUE, Integer.MAX_VALUE}) {
            Edge.refused("P70 slot " + slot, EdgeRowTest::rows, x -> x.write(slot, 0, 1), -2);
            Edge.refused("P70 slot " + slot + " ahead of nothing", GooseShares::new, x -> x.write(slot, 0, 1), -2);
        }
        GooseShares empty = made();
        empty.row(2, 2, 0);
        Check.due("P70 a row of none", empty.write(2, 0, 1), -7);
        Check.due("P70 a row of none", empty.write(2, -1, 1), -7);
        // Without a land rows are there all the same.
        GooseShares none = new GooseShares();
        Check.due("P69 without a land", none.row(2, 2, 1), 0);
        Check.due("P70 without a land", none.write(2, 0, 1), 0);
        Check.due("P71 without a land", none.paste(2, 0, 2, 0, 1), 0);
    }

    /** What a number is once written: a cell 0 to 4 at that step, NONE at step 5, or none such. */
    private static void cut(int width, long v, int due) {
        GooseShares x = made();
        Check.row(x, 0, width, 0, due == -1 ? 5 : due < -1 ? 0 : due, 9);
        Check.due("P70 write " + v, x.write(0, 2, v), 0);
        Check.due("P70 by width " + width + " it is cut: " + v, x.laws(0), due < -1 ? -2 : 15);
    }

    private static void p70Cut() {
        int none = -2;
        long[] ends = {1L << 8, 1L << 16, 1L << 32};
        for (int width = 0; width < 4; width++) {
            cut(width, 0, 0);
            cut(width, 4, 4);
            cut(width, -1, -1);
            cut(width, 127, none);
            cut(width, -128, none);
            for (int i = 0; i < 3; i++) {
                boolean cutOff = i >= width;
                cut(width, ends[i], cutOff ? 0 : none);
                cut(width, ends[i] + 3, cutOff ? 3 : none);
                cut(width, ends[i] - 1, cutOff ? -1 : none);
                cut(width, -ends[i] + 2, cutOff ? 2 : none);
                cut(width, -ends[i] - 1, cutOff ? -1 : none);
                cut(width, ends[i] / 2, i > width ? 0 : none);
                cut(width, -ends[i] / 2, i > width ? 0 : none);
            }
            cut(width, Long.MAX_VALUE, width < 3 ? -1 : none);
            cut(width, Long.MIN_VALUE, width < 3 ? 0 : none);
            cut(width, 0x0102030405060708L, none);
            cut(width, 0x7fffffff00000001L, width < 3 ? 1 : none);
        }
    }

    private static void p71Paste() {
        GooseShares x = rows();
        Check.due("P71 all of it", x.paste(1, 0, 0, 3, 3), 0);
        Check.due("P71 0 1 1 0 3 3", x.laws(0), 15);
        x.write(0, 4, 2);
        Check.due("P71 0 1 1 0 2 3", x.laws(0), 0);
        Check.due("P71 the other stays", x.laws(1), 15);
        Check.due("P71 one number", x.paste(0, 4, 1, 1, 1), 0);
        x.write(1, 2, 2);
        Check.due("P71 0 2 2", x.laws(1), 15);
        Check.due("P71 onto itself", x.paste(1, 0, 1, 0, 3), 0);
        Check.due("P71 0 2 2 still", x.laws(1), 15);
        // Sixty at once.
        GooseShares y = made();
        y.row(0, 3, 60);
        y.row(1, 3, 60);
        for (int i = 0; i < 60; i++) {
            y.write(0, i, i % 3 == 0 ? 0 : 4);
        }
        Check.due("P71 sixty", y.paste(0, 0, 1, 0, 60), 0);
        Check.due("P71 they are there", y.laws(1), 15);
        y.write(1, 59, 3);
        Check.due("P71 the last too", y.laws(1), 0);
        Check.due("P71 the last back", y.paste(0, 59, 1, 59, 1), 0);
        Check.due("P71 it is", y.laws(1), 15);
        y.write(1, 1, 3);
        Check.due("P71 the first three back", y.paste(0, 0, 1, 0, 3), 0);
        Check.due("P71 they are", y.laws(1), 15);
    }

    /** Onto its own row, forward and back, by every distance: as they were. */
    private static void p71Over() {
        for (int from = 0; from <= 9; from++) {
            for (int to = 0; to <= 9; to++) {
                int n = Math.min(9 - from, 9 - to);
                long[] due = {3, 1, 4, 11, 5, 9, 2, 6, 15};
                GooseShares x = Check.with(SPIRAL);
                Check.row(x, 0, 0, due);
                Check.due("P71 from " + from + " to " + to, x.paste(0, from, 0, to, n), 0);
                System.arraycopy(due.clone(), from, due, to, n);
                tells(x, 0, 0, "from " + from + " to " + to, due);
            }
        }
    }

    /** Each number of a row, read as a step of the spiral, at which the flight is in a cell of its own. */
    private static void tells(GooseShares x, int slot, int width, String call, long... due) {
        x.row(3, width, 3);
        for (int i = 0; i < due.length; i++) {
            x.paste(slot, i, 3, 1, 1);
            int found = -1;
            for (int step = 0; step < WAY.length && found < 0; step++) {
                x.write(3, 2, WAY[step]);
                found = (x.laws(3) & 1) == 1 ? step : -1;
            }
            Check.due("P71 number " + i + " " + call, found, due[i]);
        }
    }

    private static void p71Refused() {
        // From slot 0 (six numbers) to slot 1 (three): places and numbers beyond, or below 0.
        int[][] beyond = {{0, 0, 4}, {0, 1, 3}, {0, 3, 1}, {4, 0, 3}, {6, 0, 1}, {5, 0, 2}, {0, 0, 7}, {0, 2, 2}, {-1, 0, 1}, {0, -1, 1},
            {0, 0, -1}, {-1, 0, 0}, {0, -1, 0}, {-1, -1, -1}, {Integer.MIN_VALUE, 0, 1}, {0, Integer.MIN_VALUE, 1},
            {0, 0, Integer.MIN_VALUE}, {Integer.MAX_VALUE, 0, 1}, {0, Integer.MAX_VALUE, 1}, {0, 0, Integer.MAX_VALUE},
            {1, 0, Integer.MAX_VALUE}, {0, 1, Integer.MAX_VALUE}, {Integer.MAX_VALUE, Integer.MAX_VALUE, Integer.MAX_VALUE},
            {Integer.MIN_VALUE, Integer.MIN_VALUE, Integer.MIN_VALUE}};
        for (int[] w : beyond) {
            String call = "P71 paste " + java.util.Arrays.toString(w);
            Edge.refused(call, EdgeRowTest::rows, x -> x.paste(0, w[0], 1, w[1], w[2]), -7);
            GooseShares x = Check.with(SPIRAL);
            Check.row(x, 0, 2, 6, 5, 4, 3, 2, 1);
            Check.row(x, 1, 2, 7, 8, 9);
            Check.due(call, x.paste(0, w[0], 1, w[1], w[2]), -7);
            tells(x, 0, 2, "stays", 6, 5, 4, 3, 2, 1);
            tells(x, 1, 2, "stays", 7, 8, 9);
        }
        // The last that is still within, on either side.
        int[][] within = {{0, 0, 3}, {3, 0, 3}, {5, 0, 1}, {5, 2, 1}, {0, 2, 1}, {4, 1, 2}};
        for (int[] w : within) {
            long[] due = {7, 8, 9};
            System.arraycopy(new long[] {6, 5, 4, 3, 2, 1}, w[0], due, w[1], w[2]);
            GooseShares x = Check.with(SPIRAL);
            Check.row(x, 0, 2, 6, 5, 4, 3, 2, 1);
            Check.row(x, 1, 2, 7, 8, 9);
            Check.due("P71 paste " + java.util.Arrays.toString(w), x.paste(0, w[0], 1, w[1], w[2]), 0);
            tells(x, 0, 2, "stays", 6, 5, 4, 3, 2, 1);
            tells(x, 1, 2, "is put there", due);
        }
    }

    /** No such slot, then nothing, then unlike widths, then what is beyond. */
    private static void p71Order() {
        for (int slot : new int[] {-1, 4, Integer.MIN_VALUE, Integer.MAX_VALUE}) {
            Edge.refused("P71 no slot", EdgeRowTest::rows, x -> x.paste(slot, 0, 0, 0, 0), -2);
            Edge.refused("P71 no slot", EdgeRowTest::rows, x -> x.paste(0, 0, slot, 0, 0), -2);
            Edge.refused("P71 no slot, nothing", EdgeRowTest::rows, x -> x.paste(slot, 0, 3, 0, 0), -2);
            Edge.refused("P71 no slot, nothing", EdgeRowTest::rows, x -> x.paste(3, 0, slot, 0, 0), -2);
            Edge.refused("P71 no slot, beyond", EdgeRowTest::rows, x -> x.paste(slot, -1, 0, 0, 99), -2);
        }
        Edge.refused("P71 nothing there", EdgeRowTest::rows, x -> x.paste(0, 0, 3, 0, 0), -6);
        Edge.refused("P71 nothing here", EdgeRowTest::rows, x -> x.paste(3, 0, 0, 0, 0), -6);
        Edge.refused("P71 nothing at all", EdgeRowTest::rows, x -> x.paste(3, 0, 3, 0, 0), -6);
        Edge.refused("P71 nothing, beyond", EdgeRowTest::rows, x -> x.paste(0, -1, 3, -1, -1), -6);
        Edge.refused("P71 nothing, beyond", EdgeRowTest::rows, x -> x.paste(3, 99, 0, 99, 99), -6);
        Edge.refused("P71 unlike", EdgeRowTest::rows, x -> x.paste(0, 0, 2, 0, 1), -8);
        Edge.refused("P71 unlike", EdgeRowTest::rows, x -> x.paste(2, 0, 0, 0, 1), -8);
        Edge.refused("P71 unlike, none put", EdgeRowTest::rows, x -> x.paste(0, 0, 2, 0, 0), -8);
        Edge.refused("P71 unlike, beyond", EdgeRowTest::rows, x -> x.paste(0, -1, 2, 99, -1), -8);
    }

    private static void p71None() {
        // No number at all, up to the rows' ends; behind them there is no place.
        int[][] places = {{0, 0, 0}, {6, 0, 0}, {0, 3, 0}, {6, 3, 0}, {7, 0, -7}, {0, 4, -7}, {60, 0, -7}, {0, 60, -7}};
        for (int[] p : places) {
            Edge.refused("P71 none " + p[0] + " " + p[1], EdgeRowTest::rows, x -> x.paste(0, p[0], 1, p[1], 0), p[2]);
        }
        GooseShares x = made();
        x.row(0, 0, 0);
        x.row(1, 0, 0);
        Check.due("P71 none of empty rows", x.paste(0, 0, 1, 0, 0), 0);
        Check.due("P71 one of empty rows", x.paste(0, 0, 1, 0, 1), -7);
        Check.due("P71 onto itself", x.paste(1, 0, 1, 0, 0), 0);
    }
}
