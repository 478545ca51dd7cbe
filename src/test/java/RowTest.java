/** Promises 69 to 71: rows, what is written and pasted, seen through laws(), which tells rows apart. */
public final class RowTest {
    // By every law the flight is in 0 at step 0 and in 1 at step 1, so laws() is 15 if a row tells just that.
    private static final String LAND = "land wide 5 high 1 law 0 ear 0 odds 0;flight at 0 heads 1 geese 1;";

    public static void main(String[] args) {
        rows();
        writes();
        cutToWidth();
        pastes();
        pastesOverItself();
        wrongPastes();
        Check.finish();
    }

    private static void rows() {
        GooseShares x = Check.with(LAND);
        Check.due("no rows", x.count(11), 0);
        Check.due("row(0, 0, 0)", x.row(0, 0, 0), 0);
        Check.due("an empty row is one", x.count(11), 1);
        Check.due("laws of it", x.laws(0), 15);
        Check.due("row(3, 3, 60)", x.row(3, 3, 60), 0);
        Check.due("all 0", x.laws(3), 15);
        Check.due("two rows", x.count(11), 2);
        Check.due("write", x.write(3, 59, 4), 0);
        Check.due("the last is written", x.laws(3), 0);
        Check.due("row in place of another", x.row(3, 3, 60), 0);
        Check.due("all 0 again", x.laws(3), 15);
        Check.due("row(3, 0, 3) in place", x.row(3, 0, 3), 0);
        Check.due("no such number now", x.write(3, 3, 0), -7);
        Check.due("rows all the same", x.count(11), 2);
        x.write(3, 2, 4);
        Check.due("row below 0", x.row(3, 1, -1), -3);
        Check.due("row far below 0", x.row(3, 1, Integer.MIN_VALUE), -3);
        Check.due("the slot stays", x.laws(3), 0);
        Check.due("row below 0 of nothing", x.row(1, 1, -1), -3);
        Check.due("it has nothing", x.laws(1), -6);
        int[] no = {-1, 4, Integer.MIN_VALUE, Integer.MAX_VALUE};
        for (int wrong : no) {
            Check.due("row of slot " + wrong, x.row(wrong, 0, 1), -2);
            Check.due("row of width " + wrong, x.row(0, wrong, 1), -2);
            Check.due("row of slot " + wrong + ", below", x.row(wrong, 0, -1), -2);
            Check.due("row of width " + wrong + ", below", x.row(0, wrong, -1), -2);
        }
        Check.due("row of 61", x.row(0, 0, 61), -2);
        Check.due("row of MAX", x.row(0, 0, Integer.MAX_VALUE), -2);
        Check.due("the slot stays", x.write(0, 0, 1), -7);
    }

    private static void writes() {
        GooseShares x = Check.with(LAND);
        Check.due("write to nothing", x.write(0, 0, 1), -6);
        Check.due("write to nothing, no number", x.write(0, -1, 1), -6);
        Check.due("row", x.row(0, 1, 3), 0);
        int[] noSlots = {-1, 4, Integer.MIN_VALUE, Integer.MAX_VALUE};
        for (int wrong : noSlots) {
            Check.due("write to slot " + wrong, x.write(wrong, 0, 1), -2);
        }
        int[] noNumbers = {-1, 3, 60, Integer.MIN_VALUE, Integer.MAX_VALUE};
        for (int wrong : noNumbers) {
            Check.due("write number " + wrong, x.write(0, wrong, 1), -7);
        }
        Check.due("write", x.write(0, 1, 1), 0);
        Check.due("not in 0 at step 1", x.laws(0), 0);
        Check.due("write", x.write(0, 2, 1), 0);
        Check.due("in 1 at step 1", x.laws(0), 15);
    }

    private static void cutToWidth() {
        GooseShares x = Check.with(LAND);
        long[] beyond = {1L << 8, 1L << 16, 1L << 32};
        for (int width = 0; width < 4; width++) {
            Check.row(x, 0, width, 0, 1, 0);
            for (int i = 0; i < beyond.length; i++) {
                x.write(0, 2, beyond[i] + 1);
                Check.due("by width " + width + " beyond " + beyond[i], x.laws(0), i >= width ? 15 : -2);
                x.write(0, 2, beyond[i] - 1);
                x.write(0, 1, 5);
                Check.due("all ones by width " + width + " of " + beyond[i], x.laws(0), i >= width ? 15 : -2);
                x.write(0, 1, 1);
            }
        }
        Check.row(x, 0, 0, 0, 5, 127);
        Check.due("127 stays", x.laws(0), -2);
        Check.row(x, 0, 0, 0, 5, Long.MAX_VALUE);
        Check.due("the greatest is -1 by one byte", x.laws(0), 15);
        Check.row(x, 0, 0, Long.MIN_VALUE, 0, 0);
        Check.due("the least is 0 by one byte", x.laws(0), 15);
        Check.row(x, 0, 3, Long.MIN_VALUE, 0, 0);
        Check.due("the least is itself by eight", x.laws(0), -2);
    }

    private static void pastes() {
        GooseShares x = Check.with(LAND);
        Check.row(x, 0, 1, 9, 0, 1, 1, 9);
        Check.row(x, 1, 1, 7, 7, 7);
        Check.due("paste", x.paste(0, 1, 1, 0, 3), 0);
        Check.due("0 1 1", x.laws(1), 15);
        Check.due("its row stays", x.laws(0), -2);
        Check.row(x, 2, 1, 0, 4, 4);
        Check.due("paste two", x.paste(1, 1, 2, 1, 2), 0);
        Check.due("0 1 1", x.laws(2), 15);
        // Pasted is what was there: writing later changes one row alone.
        x.write(1, 2, 3);
        Check.due("0 1 1 still", x.laws(2), 15);
        Check.due("0 1 3", x.laws(1), 0);
        Check.due("paste none", x.paste(0, 0, 1, 3, 0), 0);
        Check.due("paste none from the end", x.paste(0, 5, 1, 0, 0), 0);
        Check.due("0 1 3 still", x.laws(1), 0);
    }

    private static void pastesOverItself() {
        GooseShares x = Check.with(LAND);
        // Forward: 0 1 1 becomes 0 0 1 if it is as it was, 0 0 0 if it ran on.
        Check.row(x, 0, 0, 0, 1, 1);
        Check.due("paste", x.paste(0, 0, 0, 1, 2), 0);
        Check.due("0 0 1", x.laws(0), 0);
        x.write(0, 1, 1);
        Check.due("0 1 1", x.laws(0), 15);
        // Back: 9 0 1 1 1 1 1 becomes 0 1 1 1 1 1 1.
        Check.row(x, 1, 0, 9, 0, 1, 1, 0, 1, 1);
        Check.due("paste", x.paste(1, 1, 1, 0, 6), 0);
        Check.due("paste to another", x.row(2, 0, 6), 0);
        Check.due("paste to another", x.paste(1, 0, 2, 0, 6), 0);
        Check.due("0 1 1 0 1 1", x.laws(2), 15);
        // Six numbers forward by three: the first three twice.
        Check.row(x, 3, 0, 0, 1, 1, 0, 2, 2, 0, 0, 0);
        Check.due("paste", x.paste(3, 0, 3, 3, 6), 0);
        Check.due("0 1 1 0 1 1 0 2 2", x.laws(3), 15);
        x.write(3, 8, 1);
        Check.due("the last three are told", x.laws(3), 0);
    }

    private static void wrongPastes() {
        GooseShares x = Check.with(LAND);
        int[] noSlots = {-1, 4, Integer.MIN_VALUE, Integer.MAX_VALUE};
        for (int wrong : noSlots) {
            Check.due("paste from " + wrong, x.paste(wrong, 0, 0, 0, 0), -2);
            Check.due("paste to " + wrong, x.paste(0, 0, wrong, 0, 0), -2);
        }
        Check.due("paste nothing", x.paste(0, 0, 0, 0, 0), -6);
        Check.row(x, 0, 1, 0, 1, 1);
        Check.due("paste to nothing", x.paste(0, 0, 1, 0, 0), -6);
        Check.due("paste from nothing", x.paste(1, 0, 0, 0, 0), -6);
        Check.due("paste to nothing, beyond", x.paste(0, -1, 1, 0, 0), -6);
        Check.row(x, 1, 2, 0, 0, 0, 0);
        Check.due("paste of unlike width", x.paste(0, 0, 1, 0, 1), -8);
        Check.due("paste of unlike width, none", x.paste(1, 0, 0, 0, 0), -8);
        Check.due("paste of unlike width, beyond", x.paste(0, -1, 1, 0, 99), -8);
        Check.row(x, 2, 1, 0, 1, 1, 9);
        int[][] beyond = {{0, 0, 4}, {1, 0, 3}, {3, 0, 1}, {0, 2, 3}, {0, 4, 1}, {-1, 0, 1}, {0, -1, 1}, {0, 0, -1},
            {Integer.MAX_VALUE, 0, 1}, {0, Integer.MAX_VALUE, 1}, {1, 1, Integer.MAX_VALUE},
            {Integer.MAX_VALUE, Integer.MAX_VALUE, Integer.MAX_VALUE}, {Integer.MIN_VALUE, 0, 0}, {0, Integer.MIN_VALUE, 0},
            {0, 0, Integer.MIN_VALUE}};
        for (int[] wrong : beyond) {
            Check.due("paste " + java.util.Arrays.toString(wrong), x.paste(0, wrong[0], 2, wrong[1], wrong[2]), -7);
        }
        Check.due("a place behind the end, none", x.paste(0, 4, 2, 0, 0), -7);
        Check.due("a place behind the end, none", x.paste(0, 0, 2, 5, 0), -7);
        Check.row(x, 3, 1, 0, 1, 1);
        Check.due("paste", x.paste(2, 0, 3, 0, 3), 0);
        Check.due("nothing happened", x.laws(3), 15);
    }
}
