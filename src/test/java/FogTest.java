/** Promises 56 to 58, 63 and 64: fog by chance, and nights drawn. */
public final class FogTest {
    private static final String LAND = "land wide 3 high 1 law 0 ear 0 odds 3;flight at 0 heads 1 geese 2;flight at 0 heads 1 geese 3;"
            + "member at 2 wants 3 pays 10;member at 1 wants 5 pays 20;member at 0 wants 0 pays 9;member at 0 wants 6 pays 9;";

    public static void main(String[] args) {
        chances();
        oddsAtTheEnds();
        noFlights();
        draws();
        servedInFog();
        luck();
        wrongOnes();
        Check.finish();
    }

    private static void fraction(String what, int above, int below, int dueAbove, int dueBelow) {
        Check.due(what + ", above", above, dueAbove);
        Check.due(what + ", below", below, dueBelow);
    }

    private static void chances() {
        GooseShares x = Check.with(LAND);
        // Member 0 needs the second flight, member 1 both, 2 wants nothing, 3 more than there is.
        int[][] chance = {{7, 10}, {49, 100}, {0, 1}, {0, 1}};
        for (int member = 0; member < 4; member++) {
            fraction("chance " + member, x.chance(member, 0), x.chance(member, 1), chance[member][0], chance[member][1]);
        }
        fraction("mean", x.mean(0), x.mean(1), 84, 5);
        int[][] flown = {{1, 1}, {91, 100}, {49, 100}, {0, 1}, {0, 1}};
        for (int n = 0; n < 5; n++) {
            fraction("flown " + n, x.flown(n, 0), x.flown(n, 1), flown[n][0], flown[n][1]);
        }
        // As lamps are now: turned out at 0 nobody hears but who lives there.
        x.light(0, 1);
        fraction("chance by a lamp", x.chance(0, 0), x.chance(0, 1), 0, 1);
        fraction("mean by a lamp", x.mean(0), x.mean(1), 0, 1);
        // Four flights with odds 5: sixteen nights, each as likely.
        GooseShares y = Check.with("land wide 1 high 1 law 0 ear 0 odds 5;" + "flight at 0 heads 0 geese 1;".repeat(4)
                + "member at 0 wants 3 pays 16;");
        fraction("chance of four", y.chance(0, 0), y.chance(0, 1), 5, 16);
        fraction("mean of four", y.mean(0), y.mean(1), 5, 1);
        fraction("flown 4 of four", y.flown(4, 0), y.flown(4, 1), 1, 16);
        fraction("flown 1 of four", y.flown(1, 0), y.flown(1, 1), 15, 16);
    }

    private static void oddsAtTheEnds() {
        String rest = ";flight at 0 heads 0 geese 1;member at 0 wants 1 pays 7;";
        GooseShares never = Check.with("land wide 1 high 1 law 0 ear 0 odds 0" + rest);
        fraction("never in fog", never.chance(0, 0), never.chance(0, 1), 1, 1);
        fraction("mean, never", never.mean(0), never.mean(1), 7, 1);
        fraction("flown, never", never.flown(1, 0), never.flown(1, 1), 1, 1);
        GooseShares always = Check.with("land wide 1 high 1 law 0 ear 0 odds 10" + rest);
        fraction("always in fog", always.chance(0, 0), always.chance(0, 1), 0, 1);
        fraction("mean, always", always.mean(0), always.mean(1), 0, 1);
        fraction("flown, always", always.flown(1, 0), always.flown(1, 1), 0, 1);
        Check.due("fog is by chance only: served()", always.served(), 1);
    }

    private static void noFlights() {
        GooseShares x = Check.with("land wide 5 high 4 law 0 ear 8 odds 10;member at 0 wants 1 pays 7;");
        fraction("flown(0) of none", x.flown(0, 0), x.flown(0, 1), 1, 1);
        fraction("flown(1) of none", x.flown(1, 0), x.flown(1, 1), 0, 1);
        fraction("mean of none", x.mean(0), x.mean(1), 0, 1);
        fraction("chance of none", x.chance(0, 0), x.chance(0, 1), 0, 1);
        Check.due("drawn(5, 0)", x.drawn(5, 0), 0);
        Check.due("drawn(5, 1)", x.drawn(5, 1), 0);
        Check.due("luck(5, 2, 0)", x.luck(5, 2, 0), 0);
    }

    private static GooseShares four(int odds) {
        return Check.with("land wide 1 high 1 law 0 ear 0 odds " + odds + ";flight at 0 heads 0 geese 1;flight at 0 heads 0 geese 2;"
                + "flight at 0 heads 0 geese 4;flight at 0 heads 0 geese 8;member at 0 wants 8 pays 1;member at 0 wants 12 pays 1;"
                + "member at 0 wants 15 pays 1;member at 0 wants 0 pays 1;");
    }

    private static void draws() {
        // The numbers of this rule are well known: 16838 5758 10113 17515 from 1, 0 21468 9988 22117 from 0.
        int[] ofOne = {8, 8, 3, 5};
        int[] ofNought = {0, 8, 8, 7};
        for (int odds = 0; odds <= 10; odds++) {
            int fogOfOne = 0;
            int fogOfNought = 0;
            for (int flight = 0; flight < 4; flight++) {
                fogOfOne |= ofOne[flight] < odds ? 1 << flight : 0;
                fogOfNought |= ofNought[flight] < odds ? 1 << flight : 0;
            }
            Check.due("drawn(1, 0) by " + odds, four(odds).drawn(1, 0), fogOfOne);
            Check.due("drawn(0, 0) by " + odds, four(odds).drawn(0, 0), fogOfNought);
        }
        Check.due("drawn(1, 0) by 4", four(4).drawn(1, 0), 4);
        Check.due("drawn(0, 0) by 8", four(8).drawn(0, 0), 9);
        // From the greatest seed x is 216544313, 467520126, 211143647, 1298133036: draws 4 3 1 7.
        Check.due("drawn of the greatest by 2", four(2).drawn(2000000000, 0), 4);
        Check.due("drawn of the greatest by 4", four(4).drawn(2000000000, 0), 6);
        Check.due("drawn of the greatest by 7", four(7).drawn(2000000000, 0), 7);
        Check.due("drawn of the greatest by 8", four(8).drawn(2000000000, 0), 15);
    }

    private static void servedInFog() {
        // From 1 by odds 4 the third flight is in fog: 1 and 2 and 8 are heard.
        Check.due("drawn(1, 1) by 4", four(4).drawn(1, 1), 1);
        Check.due("drawn(1, 1) by 0", four(0).drawn(1, 1), 7);
        Check.due("drawn(1, 1) by 6", four(6).drawn(1, 1), 0);
        Check.due("drawn(0, 1) by 1", four(1).drawn(0, 1), 3);
        Check.due("drawn(0, 1) by 10", four(10).drawn(0, 1), 0);
    }

    private static void luck() {
        GooseShares x = four(1);
        // From 0 the first flight is in fog, from 1 none.
        Check.due("luck(0, 1, 2)", x.luck(0, 1, 2), 0);
        Check.due("luck(0, 2, 2)", x.luck(0, 2, 2), 1);
        Check.due("luck(1, 1, 2)", x.luck(1, 1, 2), 1);
        Check.due("luck(0, 2, 1)", x.luck(0, 2, 1), 2);
        Check.due("luck(0, 20, 3)", x.luck(0, 20, 3), 0);
        int nights = 0;
        for (int seed = 7; seed < 27; seed++) {
            nights += x.drawn(seed, 1) >> 1 & 1;
        }
        Check.due("luck(7, 20, 1)", x.luck(7, 20, 1), nights);
        Check.due("luck of the greatest seed", four(0).luck(2000000000, 20, 0), 20);
    }

    private static void wrongOnes() {
        GooseShares x = Check.with(LAND);
        int[] no = {-1, 4, Integer.MIN_VALUE, Integer.MAX_VALUE};
        for (int wrong : no) {
            Check.due("chance " + wrong, x.chance(wrong, 0), -2);
            Check.due("luck member " + wrong, x.luck(0, 1, wrong), -2);
        }
        int[] noWhats = {-1, 2, Integer.MIN_VALUE, Integer.MAX_VALUE};
        for (int wrong : noWhats) {
            Check.due("chance what " + wrong, x.chance(0, wrong), -2);
            Check.due("mean what " + wrong, x.mean(wrong), -2);
            Check.due("flown what " + wrong, x.flown(0, wrong), -2);
            Check.due("drawn what " + wrong, x.drawn(0, wrong), -2);
        }
        int[] noCounts = {-1, 5, Integer.MIN_VALUE, Integer.MAX_VALUE};
        for (int wrong : noCounts) {
            Check.due("flown " + wrong, x.flown(wrong, 0), -2);
        }
        int[] noSeeds = {-1, 2000000001, Integer.MIN_VALUE, Integer.MAX_VALUE};
        for (int wrong : noSeeds) {
            Check.due("drawn seed " + wrong, x.drawn(wrong, 0), -2);
            Check.due("luck seed " + wrong, x.luck(wrong, 1, 0), -2);
        }
        int[] noNights = {0, -1, 21, Integer.MIN_VALUE, Integer.MAX_VALUE};
        for (int wrong : noNights) {
            Check.due("luck nights " + wrong, x.luck(0, wrong, 0), -2);
        }
        GooseShares none = new GooseShares();
        int[] answers = {none.chance(0, 0), none.mean(0), none.flown(0, 0), none.drawn(0, 0), none.luck(0, 1, 0)};
        for (int i = 0; i < answers.length; i++) {
            Check.due("answer " + i + " without a land", answers[i], -2);
        }
    }
}
