/** Promises 41 to 47: laws by what was seen, beginnings by who heard. */
public final class ClueTest {
    // By law 1 it goes 6 3 0, by the others it is out at once.
    private static final String CORNER = "land wide 3 high 3 law 0 ear 0 odds 0;flight at 6 heads 1 geese 2;lamp at 6;";
    private static final String TWO = "land wide 2 high 1 law 0 ear 0 odds 0;member at 0 wants 1 pays 1;member at 1 wants 0 pays 0;";

    public static void main(String[] args) {
        laws();
        asks();
        wrongSights();
        beginnings();
        beginningsWithLamps();
        wrongReports();
        widths();
        Check.finish();
    }

    private static void seen(GooseShares x, int laws, int ask, long... numbers) {
        Check.row(x, 0, 0, numbers);
        String told = java.util.Arrays.toString(numbers);
        Check.due("laws of " + told, x.laws(0), laws);
        Check.due("ask of " + told, x.ask(0), ask);
    }

    private static void laws() {
        GooseShares x = Check.with(CORNER);
        seen(x, 15, 0);
        seen(x, 2, -1, 0, 1, 3);
        seen(x, 13, -1, 0, 1, -1);
        seen(x, 15, 0, 0, 0, 6);
        seen(x, 0, -1, 0, 0, 5);
        seen(x, 0, -1, 0, 1, 3, 0, 2, -1);
        seen(x, 2, -1, 0, 1, 3, 0, 2, 0, 0, 3, -1);
        seen(x, 15, 0, 0, 40, -1);
        seen(x, 13, -1, 0, 2, 255);
        Check.due("the law stays", x.count(2), 0);
        // Seen under lamps as they are now: unlit it goes 6 7 8 by any law, and no flight tells laws apart.
        x.light(6, 0);
        seen(x, 15, -1, 0, 1, 7);
        GooseShares none = Check.with("land wide 1 high 1 law 0 ear 0 odds 0;");
        seen(none, 15, -1);
    }

    private static void asks() {
        // Flight 0 is out at 1 by every law; 1 turns at an odd step, 2 and 3 at an even one.
        String flights = "flight at 0 heads 0 geese 1;flight at 11 heads 1 geese 1;flight at 10 heads 1 geese 1;"
                + "flight at 10 heads 1 geese 1;lamp at 12;";
        int[][] outs = {{1, 3, 4}, {1, 4, 5}, {1, 4, 5}, {1, 4, 4}};
        for (int law = 0; law < 4; law++) {
            GooseShares y = Check.with("land wide 5 high 4 law " + law + " ear 0 odds 0;" + flights);
            for (int flight = 0; flight < 3; flight++) {
                Check.due("out of " + flight + " by law " + law, y.out(flight), outs[law][flight]);
            }
        }
        GooseShares x = Check.with("land wide 5 high 4 law 0 ear 0 odds 0;" + flights);
        // Flight 1 leaves three at worst, 2 and 3 two: the first of these.
        seen(x, 15, 2);
        seen(x, 9, 1, 2, 3, 17);
        seen(x, 10, 2, 1, 2, 7);
        seen(x, 1, -1, 1, 3, -1);
        seen(x, 1, -1, 1, 2, 17, 2, 3, 17);
    }

    private static void wrongSights() {
        GooseShares x = Check.with(CORNER);
        Check.due("laws of nothing", x.laws(0), -6);
        Check.due("ask of nothing", x.ask(0), -6);
        long[][] wrong = {{1, 0, 0}, {-1, 0, 0}, {0, 41, 0}, {0, -1, 0}, {0, 0, 9}, {0, 0, -2}, {0}, {0, 0}, {0, 0, 6, 0},
            {0, 0, 6, 0, 0}, {0, 0, 6, 0, 1, 9}};
        for (long[] numbers : wrong) {
            seen(x, -2, -2, numbers);
        }
        int[] noSlots = {-1, 4, Integer.MIN_VALUE, Integer.MAX_VALUE};
        for (int slot : noSlots) {
            Check.due("laws of slot " + slot, x.laws(slot), -2);
            Check.due("ask of slot " + slot, x.ask(slot), -2);
        }
        GooseShares none = new GooseShares();
        Check.due("laws without a land", none.laws(0), -2);
        Check.due("ask without a land", none.ask(0), -2);
        Check.row(none, 0, 0);
        Check.due("laws without a land", none.laws(0), -2);
        Check.due("ask without a land", none.ask(0), -2);
    }

    /** What is due: how many, cells, whom to ask, how many are left at worst. */
    private static void heard(GooseShares x, int[] due, long... numbers) {
        Check.row(x, 1, 0, numbers);
        String told = java.util.Arrays.toString(numbers);
        Check.due("began of " + told, x.began(1), due[0]);
        Check.due("spots of " + told, x.spots(1), due[1]);
        Check.due("who of " + told, x.who(1), due[2]);
        Check.due("leaves of " + told, x.leaves(1), due[3]);
    }

    private static void odds(GooseShares x, int member, int above, int below) {
        Check.due("odds above", x.odds(1, member, 0), above);
        Check.due("odds below", x.odds(1, member, 1), below);
    }

    private static void beginnings() {
        // From 0 the one to the right is heard by both, the others by 0 alone; from 1 likewise to the left.
        GooseShares x = Check.with(TWO);
        heard(x, new int[] {8, 3, 0, 5});
        odds(x, 0, 5, 8);
        odds(x, 1, 5, 8);
        heard(x, new int[] {5, 3, 1, 3}, 0, 1);
        odds(x, 0, 1, 1);
        odds(x, 1, 2, 5);
        heard(x, new int[] {2, 3, -1, 2}, 0, 1, 1, 1);
        odds(x, 1, 1, 1);
        heard(x, new int[] {3, 1, -1, 3}, 1, 0);
        odds(x, 0, 1, 1);
        odds(x, 1, 0, 1);
        heard(x, new int[] {3, 2, -1, 3}, 0, 0);
        heard(x, new int[] {0, 0, -1, 0}, 0, 0, 1, 0);
        odds(x, 0, -1, -1);
        heard(x, new int[] {0, 0, -1, 0}, 0, 0, 0, 1);
        heard(x, new int[] {5, 3, 1, 3}, 0, 1, 0, 1);
        // By the ear as well: with ear 1 both hear all.
        GooseShares y = Check.with("land wide 2 high 1 law 0 ear 1 odds 10;member at 0 wants 1 pays 1;member at 1 wants 0 pays 0;");
        heard(y, new int[] {8, 3, -1, 8}, 0, 1);
        heard(y, new int[] {0, 0, -1, 0}, 0, 0);
        GooseShares none = Check.with("land wide 1 high 1 law 0 ear 0 odds 0;");
        heard(none, new int[] {4, 1, -1, 4});
    }

    private static void beginningsWithLamps() {
        // The lamp throws back who comes from 0; from 1 only the one to the left is turned to 2.
        GooseShares x = Check.with("land wide 3 high 1 law 2 ear 0 odds 0;member at 2 wants 1 pays 1;lamp at 1;");
        heard(x, new int[] {5, 6, -1, 5}, 0, 1);
        heard(x, new int[] {7, 3, -1, 7}, 0, 0);
        heard(x, new int[] {12, 7, 0, 7});
        odds(x, 0, 5, 12);
        x.light(1, 0);
        heard(x, new int[] {6, 7, -1, 6}, 0, 1);
        heard(x, new int[] {12, 7, 0, 6});
        odds(x, 0, 1, 2);
    }

    private static void wrongReports() {
        GooseShares x = Check.with(TWO);
        Check.due("began of nothing", x.began(1), -6);
        Check.due("spots of nothing", x.spots(1), -6);
        Check.due("who of nothing", x.who(1), -6);
        Check.due("leaves of nothing", x.leaves(1), -6);
        Check.due("odds of nothing", x.odds(1, 0, 0), -6);
        Check.due("odds of nothing, no member", x.odds(1, 2, 0), -2);
        Check.due("odds of nothing, no what", x.odds(1, 0, 2), -2);
        long[][] wrong = {{2, 1}, {-1, 1}, {0, 2}, {0, -1}, {0}, {0, 1, 1}, {0, 1, 1, 2}};
        for (long[] numbers : wrong) {
            heard(x, new int[] {-2, -2, -2, -2}, numbers);
            odds(x, 0, -2, -2);
        }
        Check.row(x, 1, 0, 0, 1);
        int[] no = {-1, 4, Integer.MIN_VALUE, Integer.MAX_VALUE};
        for (int wrongOne : no) {
            Check.due("began of slot " + wrongOne, x.began(wrongOne), -2);
            Check.due("spots of slot " + wrongOne, x.spots(wrongOne), -2);
            Check.due("who of slot " + wrongOne, x.who(wrongOne), -2);
            Check.due("leaves of slot " + wrongOne, x.leaves(wrongOne), -2);
            Check.due("odds of slot " + wrongOne, x.odds(wrongOne, 0, 0), -2);
            Check.due("odds of member " + wrongOne, x.odds(1, wrongOne, 0), -2);
            Check.due("odds of what " + wrongOne, x.odds(1, 0, wrongOne), -2);
        }
        GooseShares none = new GooseShares();
        Check.row(none, 1, 0);
        heard(none, new int[] {-2, -2, -2, -2});
        odds(none, 0, -2, -2);
    }

    private static void widths() {
        GooseShares x = Check.with(CORNER);
        for (int width = 0; width < 4; width++) {
            Check.row(x, 3, width, 0, 1, -1);
            Check.due("laws by width " + width, x.laws(3), 13);
        }
        // Numbers beyond an int must not be cut when they are asked about.
        Check.row(x, 3, 3, 1L << 32, 1, 3);
        Check.due("a flight beyond an int", x.laws(3), -2);
        Check.row(x, 3, 3, 0, (1L << 32) + 1, 3);
        Check.due("a step beyond an int", x.laws(3), -2);
        Check.row(x, 3, 3, 0, 1, (1L << 32) + 3);
        Check.due("a cell beyond an int", x.laws(3), -2);
        Check.row(x, 3, 2, 0, (1L << 32) + 1, 3);
        Check.due("cut when it was written", x.laws(3), 2);
        GooseShares y = Check.with(TWO);
        Check.row(y, 2, 3, 1L << 32, 1);
        Check.due("a member beyond an int", y.began(2), -2);
        Check.row(y, 2, 3, 0, (1L << 32) + 1);
        Check.due("an answer beyond an int", y.began(2), -2);
    }
}
