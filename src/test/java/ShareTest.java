/** Promises 48 to 52, 54 and 55: homes, swaps, prices, and two who light lamps. */
public final class ShareTest {
    // Cells 0 to 2 hear 3, cells 3 and 4 hear 7.
    private static final String ROW = "land wide 5 high 1 law 2 ear 0 odds 0;flight at 0 heads 1 geese 3;flight at 3 heads 1 geese 4;";

    public static void main(String[] args) {
        homes();
        swaps();
        price();
        atRestWithoutLamps();
        atRestTogether();
        atRestAlone();
        oneCellForTwo();
        wrongOnes();
        Check.finish();
    }

    private static void homesAre(String text, int homes, int... cells) {
        GooseShares x = Check.with(text);
        Check.due("homes() of " + text, x.homes(), homes);
        for (int member = 0; member < cells.length; member++) {
            Check.due("home(" + member + ") of " + text, x.home(member), cells[member]);
            Check.due("he stays", x.member(member, 0) >= 0 ? 0 : 1, 0);
        }
        Check.due("home beyond", x.home(cells.length), -2);
        Check.due("home(-1)", x.home(-1), -2);
    }

    private static void homes() {
        String hard = "member at 4 wants 2 pays 5;member at 0 wants 7 pays 9;member at 3 wants 8 pays 50;";
        homesAre(ROW + hard, 14, 0, 3, 4);
        Check.due("income() as they live", Check.with(ROW + hard).income(), 5);
        // Only one of two fits the loud house: he who pays more; the rest take the least cells.
        homesAre(ROW + "member at 4 wants 7 pays 5;member at 1 wants 7 pays 9;member at 0 wants 1 pays 1;", 10, 0, 4, 1);
        // None is ever served: the least row of all.
        homesAre(ROW + "member at 4 wants 99 pays 5;member at 2 wants 99 pays 9;member at 0 wants 0 pays 1;", 0, 0, 2, 4);
        // Two in one cell keep two places there.
        homesAre(ROW + "member at 4 wants 7 pays 1;member at 0 wants 7 pays 2;member at 4 wants 3 pays 4;", 7, 4, 4, 0);
        homesAre(ROW + "member at 2 wants 3 pays 1;", 1, 2);
        homesAre(ROW, 0);
        // All six, each with but one house that will do: loudness falls from cell to cell.
        homesAre("land wide 5 high 2 law 0 ear 0 odds 0;flight at 0 heads 1 geese 1;flight at 1 heads 1 geese 1;"
                + "flight at 2 heads 1 geese 1;flight at 3 heads 1 geese 1;"
                + "member at 9 wants 4 pays 1;member at 4 wants 0 pays 1;member at 3 wants 2 pays 1;"
                + "member at 2 wants 3 pays 1;member at 1 wants 1 pays 1;member at 0 wants 2 pays 1;", 5, 3, 9, 1, 2, 0, 4);
        Check.due("homes without a land", new GooseShares().homes(), -2);
        Check.due("home without a land", new GooseShares().home(0), -2);
    }

    private static void swaps() {
        GooseShares x = Check.with(ROW + "member at 4 wants 8 pays 1;member at 3 wants 2 pays 5;member at 0 wants 7 pays 9;"
                + "member at 1 wants 3 pays 1;");
        // 1 and 2 both are served, if they change; 2 can't gain with 3, who lives as quietly.
        Check.due("swaps()", x.swaps(), 1);
        Check.due("swap()", x.swap(), 12);
        // 0 and 2 both want what only 3 and 4 hear: 0 with 3 and 2 with 1 would do.
        GooseShares y = Check.with(ROW + "member at 0 wants 4 pays 1;member at 3 wants 3 pays 5;member at 2 wants 7 pays 9;"
                + "member at 4 wants 1 pays 1;");
        Check.due("swaps() of four", y.swaps(), 4);
        Check.due("swap() of four", y.swap(), 1);
        // Both are served already, or one wants nothing: no swap.
        GooseShares z = Check.with(ROW + "member at 3 wants 7 pays 1;member at 4 wants 7 pays 5;member at 0 wants 0 pays 9;");
        Check.due("swaps() of none", z.swaps(), 0);
        Check.due("swap() of none", z.swap(), -1);
        Check.due("swaps() of no members", Check.with(ROW).swaps(), 0);
        Check.due("swap() of no members", Check.with(ROW).swap(), -1);
        Check.due("swaps without a land", new GooseShares().swaps(), -2);
        Check.due("swap without a land", new GooseShares().swap(), -2);
    }

    private static void price() {
        GooseShares x = Check.with(ROW + "member at 4 wants 2 pays 5;member at 0 wants 7 pays 9;member at 3 wants 8 pays 50;"
                + "member at 3 wants 0 pays 99;");
        int[][] prices = {{999, 0}, {17, 0}, {16, 2}, {10, 2}, {9, 3}, {8, 3}, {7, 7}, {0, 7}};
        for (int[] pair : prices) {
            Check.due("price(" + pair[0] + ")", x.price(pair[0]), pair[1]);
        }
        // Just p for each goose counts.
        GooseShares y = Check.with(ROW + "member at 4 wants 5 pays 10;");
        Check.due("price(4)", y.price(4), 3);
        Check.due("price(5)", y.price(5), 0);
        Check.due("rate", y.rate(0, 9), 10);
        Check.due("price(4) of 9", y.price(4), 2);
        GooseShares z = Check.with(ROW + "member at 4 wants 1 pays 99;member at 4 wants 99 pays 0;");
        Check.due("price(0)", z.price(0), 100);
        Check.due("price(1)", z.price(1), 1);
        Check.due("price(99)", z.price(99), 1);
        Check.due("price(100)", z.price(100), 0);
        int[] no = {-1, 1000, Integer.MIN_VALUE, Integer.MAX_VALUE};
        for (int n : no) {
            Check.due("price(" + n + ")", x.price(n), -2);
        }
        Check.due("price of no members", Check.with(ROW).price(0), 0);
        Check.due("price without a land", new GooseShares().price(0), -2);
    }

    /** What is due by neither, the first alone, the other alone, both. */
    private static void haveThem(GooseShares x, int member, int other, int... has) {
        for (int i = 0; i < 4; i++) {
            Check.due("has(" + member + ", " + other + ") by " + i, x.has(member, other, i % 2, i / 2), has[i]);
        }
    }

    private static void atRestWithoutLamps() {
        // If 0 lights it comes back to 1; if 1 lights it does not come to 0.
        GooseShares x = Check.with("land wide 4 high 1 law 2 ear 0 odds 0;flight at 0 heads 1 geese 2;"
                + "member at 3 wants 2 pays 20;member at 1 wants 4 pays 10;");
        haveThem(x, 0, 1, 20, 15, 0, -5);
        haveThem(x, 1, 0, 0, -5, 10, -5);
        Check.due("rests(0, 1)", x.rests(0, 1), 1);
        Check.due("rests(1, 0)", x.rests(1, 0), 1);
        // A lamp in a house is put out by who does not light; another is as now.
        x.light(1, 1);
        haveThem(x, 0, 1, 20, 15, 0, -5);
        Check.due("rests(0, 1) lit", x.rests(0, 1), 1);
        x.light(2, 1);
        haveThem(x, 0, 1, 0, -5, 0, -5);
        haveThem(x, 1, 0, 10, -5, 10, -5);
        Check.due("lamps stay", x.lamps(), 6);
    }

    private static void atRestTogether() {
        // Lit at both ends it goes there and back for good; one lamp alone is in vain.
        GooseShares x = Check.with("land wide 4 high 1 law 2 ear 0 odds 0;flight at 1 heads 1 geese 1;"
                + "member at 0 wants 3 pays 10;member at 3 wants 3 pays 10;");
        haveThem(x, 0, 1, 0, -5, 0, 5);
        haveThem(x, 1, 0, 0, -5, 0, 5);
        Check.due("rests(0, 1)", x.rests(0, 1), 9);
        // At a pay of 5 a lamp is worth just what it costs: still at rest together, for neither has more.
        x.rate(0, 5);
        x.rate(1, 5);
        Check.due("rests(0, 1) at 5", x.rests(0, 1), 9);
        x.rate(1, 4);
        Check.due("rests(0, 1) at 4", x.rests(0, 1), 1);
    }

    private static void atRestAlone() {
        // A lamp in 3 brings it back to 2 once more, which 0 pays for.
        GooseShares x = Check.with("land wide 4 high 2 law 2 ear 1 odds 0;flight at 0 heads 1 geese 1;"
                + "member at 3 wants 3 pays 10;member at 4 wants 0 pays 9;");
        haveThem(x, 0, 1, 0, 5, 0, 5);
        haveThem(x, 1, 0, 0, -5, 0, -5);
        Check.due("rests(0, 1)", x.rests(0, 1), 2);
        Check.due("rests(1, 0)", x.rests(1, 0), 4);
    }

    private static void oneCellForTwo() {
        GooseShares x = Check.with("land wide 4 high 1 law 2 ear 1 odds 0;flight at 0 heads 1 geese 1;"
                + "member at 3 wants 3 pays 10;member at 3 wants 3 pays 10;lamp at 3;");
        haveThem(x, 0, 1, 0, 5, 10, 5);
        haveThem(x, 1, 0, 0, 5, 10, 5);
        Check.due("rests(0, 1)", x.rests(0, 1), 6);
        // The first pays 5: to light or not is the same to him.
        x.rate(0, 5);
        Check.due("rests(0, 1) at 5", x.rests(0, 1), 6);
    }

    private static void wrongOnes() {
        GooseShares x = Check.with(ROW + "member at 3 wants 3 pays 10;member at 3 wants 3 pays 10;");
        int[] no = {-1, 2, 6, Integer.MIN_VALUE, Integer.MAX_VALUE};
        for (int wrong : no) {
            Check.due("rests " + wrong, x.rests(wrong, 0), -2);
            Check.due("rests " + wrong, x.rests(0, wrong), -2);
            Check.due("has " + wrong, x.has(wrong, 0, 0, 0), -1000);
            Check.due("has " + wrong, x.has(0, wrong, 0, 0), -1000);
            Check.due("has lights " + wrong, x.has(0, 1, wrong, 0), -1000);
            Check.due("has other lights " + wrong, x.has(0, 1, 0, wrong), -1000);
        }
        Check.due("rests of one twice", x.rests(1, 1), -2);
        Check.due("has of one twice", x.has(1, 1, 0, 0), -1000);
        Check.due("rests without a land", new GooseShares().rests(0, 1), -2);
        Check.due("has without a land", new GooseShares().has(0, 1, 0, 0), -1000);
    }
}
