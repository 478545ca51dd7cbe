/** Promises 32 to 40 and 53: lamps in place of those lit, lamps more and less, laws, and what each bears. */
public final class LampTest {
    // Lamp 0 turns the flight down by 3 6, lamp 1 by 4 7, lamp 2 by 5 8.
    private static final String LAND = "land wide 3 high 3 law 0 ear 0 odds 5;flight at 0 heads 1 geese 2;";
    private static final String THREE = LAND + "member at 6 wants 2 pays 9;member at 8 wants 2 pays 4;member at 4 wants 2 pays 4;";

    public static void main(String[] args) {
        fewest();
        best();
        searchFollowsTheLand();
        moreAndLess();
        laws();
        cut();
        wrongOnes();
        Check.finish();
    }

    private static void fewest() {
        GooseShares x = Check.with(THREE + "lamp at 3;lamp at 0;");
        int[] fewest = {0, 1, 1, 2, 1, 2, 3, -1};
        int[] lights = {0, 1, 4, 4 + 256, 2, 2 + 128, 4 + 128 + 256, -1};
        for (int members = 0; members < 8; members++) {
            Check.due("fewest(" + members + ")", x.fewest(members), fewest[members]);
            Check.due("lights(" + members + ")", x.lights(members), lights[members]);
        }
        // The lamps lit stay as they are: down by 3, and there out.
        Check.due("lamps()", x.lamps(), 9);
        Check.due("served()", x.served(), 0);
        // Who wants nothing is never served.
        GooseShares y = Check.with(LAND + "member at 0 wants 0 pays 9;member at 0 wants 1 pays 9;");
        Check.due("fewest of one without wants", y.fewest(1), -1);
        Check.due("lights of one without wants", y.lights(1), -1);
        Check.due("fewest of the other", y.fewest(2), 0);
        Check.due("lights of the other", y.lights(2), 0);
        Check.due("fewest of both", y.fewest(3), -1);
        Check.due("fewest of none", y.fewest(0), 0);
        // By 3 and 6 he hears 4 5, by 1 and 7 he hears 4 2: the least as bits, not the one with the least cell.
        GooseShares w = Check.with("land wide 3 high 3 law 0 ear 1 odds 0;flight at 7 heads 3 geese 1;member at 5 wants 2 pays 1;");
        Check.due("lights, the least", w.lights(1), 8 + 64);
        Check.due("bests, the least", w.bests(3), 8 + 64);
        GooseShares z = Check.with("land wide 2 high 1 law 2 ear 0 odds 0;flight at 0 heads 3 geese 1;member at 0 wants 3 pays 1;");
        Check.due("fewest there and back", z.fewest(1), 2);
        Check.due("lights there and back", z.lights(1), 3);
    }

    private static void best() {
        GooseShares x = Check.with(THREE + "lamp at 1;");
        int[] best = {0, 9, 13, 13};
        int[] bests = {0, 1, 130, 130};
        int[] most = {0, 1, 2, 2};
        for (int n = 0; n < 4; n++) {
            Check.due("best(" + n + ")", x.best(n), best[n]);
            Check.due("bests(" + n + ")", x.bests(n), bests[n]);
            Check.due("most(" + n + ")", x.most(n), most[n]);
        }
        // By what they pay {2, 8} is better now: bests follows rate, most does not.
        Check.due("rate", x.rate(1, 5), 4);
        Check.due("best(2)", x.best(2), 14);
        Check.due("bests(2)", x.bests(2), 260);
        Check.due("most(2)", x.most(2), 2);
        // One who pays nothing counts among the most, but needs no lamp.
        GooseShares y = Check.with(LAND + "member at 6 wants 2 pays 0;");
        Check.due("best of nothing", y.best(3), 0);
        Check.due("bests of nothing", y.bests(3), 0);
        Check.due("most", y.most(0), 0);
        Check.due("most", y.most(1), 1);
        GooseShares none = Check.with("land wide 1 high 1 law 0 ear 0 odds 0;");
        Check.due("best of none", none.best(3), 0);
        Check.due("bests of none", none.bests(3), 0);
        Check.due("most of none", none.most(3), 0);
        Check.due("fewest of none", none.fewest(0), 0);
        Check.due("lights of none", none.lights(0), 0);
        Check.due("fewest of one more", none.fewest(1), -2);
    }

    private static void searchFollowsTheLand() {
        GooseShares x = Check.with(THREE);
        Check.due("lights(1)", x.lights(1), 1);
        Check.due("image", x.image(0), 0);
        // Turned down it goes by 3 6 without a lamp.
        Check.due("turn", x.turn(0, 2), 1);
        Check.due("lights(1) turned", x.lights(1), 0);
        Check.due("fewest(1) turned", x.fewest(1), 0);
        Check.due("undo", x.undo(), 0);
        Check.due("lights(1) taken back", x.lights(1), 1);
        Check.due("turn", x.turn(0, 2), 1);
        Check.due("best(0) turned", x.best(0), 9);
        Check.due("anew", x.anew(), 1);
        Check.due("best(0) anew", x.best(0), 0);
        Check.due("turn", x.turn(0, 2), 1);
        Check.due("most(0) turned", x.most(0), 1);
        Check.due("back", x.back(0), 0);
        Check.due("most(0) back", x.most(0), 0);
        Check.due("another land", Check.land(x, LAND + "member at 1 wants 2 pays 3;"), 3);
        Check.due("best(0) there", x.best(0), 3);
        Check.due("light", x.light(0, 1), 0);
        Check.due("best(0) in place of those lit", x.best(0), 3);
    }

    private static void moreAndLess() {
        GooseShares x = Check.with(THREE);
        Check.due("more() unlit", x.more(), 0);
        Check.due("less() unlit", x.less(), -1);
        x.light(1, 1);
        Check.due("more() besides 1", x.more(), 7);
        Check.due("less() of 1", x.less(), -1);
        x.light(7, 1);
        Check.due("more() besides 1 and 7", x.more(), -1);
        x.anew();
        x.light(0, 1);
        x.light(2, 1);
        x.light(8, 1);
        Check.due("income()", x.income(), 9);
        Check.due("less() of 0", x.less(), 0);
        Check.due("lamps stay", x.lamps(), 261);
        // Both ends of a row bring the same: the first.
        GooseShares y = Check.with("land wide 3 high 1 law 2 ear 0 odds 0;flight at 1 heads 1 geese 1;"
                + "flight at 1 heads 3 geese 1;member at 1 wants 3 pays 3;");
        Check.due("more(), the first", y.more(), 0);
        // Each alone of two lamps bars the way; put out both it would pay, one alone is not enough.
        GooseShares z = Check.with("land wide 4 high 1 law 2 ear 0 odds 0;flight at 0 heads 1 geese 1;"
                + "member at 3 wants 1 pays 3;lamp at 1;lamp at 2;");
        Check.due("less() of two", z.less(), -1);
        z.light(2, 0);
        Check.due("less() of one", z.less(), 1);
        Check.due("more() of one that bars", z.more(), -1);
    }

    private static void laws() {
        GooseShares x = Check.with("land wide 3 high 3 law 0 ear 0 odds 0;flight at 6 heads 1 geese 2;"
                + "member at 0 wants 1 pays 6;lamp at 6;");
        int[] by = {0, 6, 0, 0};
        for (int law = 0; law < 4; law++) {
            Check.due("by(" + law + ")", x.by(law), by[law]);
        }
        Check.due("law()", x.law(), 1);
        Check.due("the law stays", x.count(2), 0);
        Check.due("income()", x.income(), 0);
        GooseShares y = Check.with(THREE + "lamp at 0;");
        Check.due("by(0)", y.by(0), 9);
        Check.due("by(3), an even step", y.by(3), 9);
        Check.due("law(), the least", y.law(), 0);
        GooseShares z = Check.with("land wide 3 high 3 law 2 ear 0 odds 0;flight at 3 heads 1 geese 2;"
                + "member at 1 wants 1 pays 6;lamp at 4;");
        Check.due("by(1)", z.by(1), 6);
        Check.due("by(3), an odd step", z.by(3), 6);
        Check.due("law(), the least", z.law(), 1);
        Check.due("law() of none", Check.with("land wide 1 high 1 law 3 ear 0 odds 0;").law(), 0);
    }

    private static void cut() {
        // {0} serves the first two, {2} the third, {2 8} the last two, {2 6 8} all.
        GooseShares x = Check.with(LAND + "member at 3 wants 2 pays 0;member at 6 wants 2 pays 0;member at 8 wants 2 pays 0;");
        int[][] cut = {{1, 1}, {1, 2}, {3, 2}};
        for (int member = 0; member < 3; member++) {
            Check.due("cut(" + member + ", 0)", x.cut(member, 0), cut[member][0]);
            Check.due("cut(" + member + ", 1)", x.cut(member, 1), cut[member][1]);
        }
        // Who wants nothing bears nothing, and the others as without him.
        GooseShares y = Check.with(LAND + "member at 3 wants 2 pays 0;member at 4 wants 0 pays 0;member at 6 wants 2 pays 0;");
        Check.due("cut of two alike", y.cut(0, 0), 1);
        Check.due("cut of two alike", y.cut(0, 1), 2);
        Check.due("cut of nothing", y.cut(1, 0), 0);
        Check.due("cut of nothing", y.cut(1, 1), 1);
        Check.due("cut of two alike", y.cut(2, 0), 1);
        Check.due("cut of two alike", y.cut(2, 1), 2);
        GooseShares first = Check.with(LAND + "member at 4 wants 0 pays 0;member at 3 wants 2 pays 0;");
        Check.due("cut of nothing, the first", first.cut(0, 0), 0);
        Check.due("cut of the one", first.cut(1, 0), 1);
        GooseShares z = Check.with(THREE);
        Check.due("all can not be served", z.cut(0, 0), -1);
        Check.due("all can not be served", z.cut(2, 1), -1);
        Check.due("no such member first", z.cut(3, 0), -2);
        Check.due("no such what first", z.cut(0, 2), -2);
    }

    private static void wrongOnes() {
        GooseShares x = Check.with(THREE);
        int[] no = {-1, 8, Integer.MIN_VALUE, Integer.MAX_VALUE};
        for (int wrong : no) {
            Check.due("fewest " + wrong, x.fewest(wrong), -2);
            Check.due("lights " + wrong, x.lights(wrong), -2);
            Check.due("cut " + wrong, x.cut(wrong, 0), -2);
            Check.due("cut what " + wrong, x.cut(0, wrong), -2);
        }
        int[] noCounts = {-1, 4, Integer.MIN_VALUE, Integer.MAX_VALUE};
        for (int wrong : noCounts) {
            Check.due("best " + wrong, x.best(wrong), -2);
            Check.due("bests " + wrong, x.bests(wrong), -2);
            Check.due("most " + wrong, x.most(wrong), -2);
            Check.due("by " + wrong, x.by(wrong), -2);
        }
        GooseShares none = new GooseShares();
        int[] answers = {none.fewest(0), none.lights(0), none.best(0), none.bests(0), none.most(0), none.more(),
            none.less(), none.by(0), none.law(), none.cut(0, 0)};
        for (int i = 0; i < answers.length; i++) {
            Check.due("answer " + i + " without a land", answers[i], -2);
        }
    }
}
