/** Lands with all that there can be, one behind another, so that nothing of a fuller land is left in a lesser one. */
public final class FullTest {
    // Row 0 is flown by 0 (right), row 1 by 1 (left), column 4 by 2 (down), column 0 by 3 (up).
    private static final String FULL = "land wide 5 high 4 law 2 ear 0 odds 9;flight at 0 heads 1 geese 1;flight at 9 heads 3 geese 2;"
            + "flight at 4 heads 2 geese 4;flight at 15 heads 0 geese 8;"
            + "member at 0 wants 9 pays 1;member at 4 wants 5 pays 2;member at 9 wants 0 pays 4;member at 19 wants 5 pays 8;"
            + "member at 17 wants 1 pays 16;member at 7 wants 0 pays 32;";

    public static void main(String[] args) {
        fullLand();
        lesserLandBehindIt();
        fewerFlightsBehindIt();
        noLandBehindIt();
        threeLampsFromTheFirstCell();
        leastOfTheFirstGroup();
        edges();
        Check.finish();
    }

    private static void fullLand() {
        GooseShares x = Check.with(FULL);
        int[] heard = {9, 5, 6, 4, 0, 2};
        int[] near = {9, 5, 6, 4, 0, 2};
        for (int member = 0; member < 6; member++) {
            Check.due("heard(" + member + ")", x.heard(member), heard[member]);
            Check.due("near(" + member + ")", x.near(member), near[member]);
        }
        Check.due("served()", x.served(), 3);
        Check.due("income()", x.income(), 3);
        Check.due("unpaid()", x.unpaid(), 4 + 32);
        Check.due("first()", x.first(), 0);
        Check.due("lacks()", x.lacks(), 3);
        Check.due("lone()", x.lone(), 16);
        Check.due("spare()", x.spare(), 0);
        Check.due("calls(0)", x.calls(0), 15);
        Check.due("calls(4)", x.calls(4), 3);
        Check.due("over(0)", x.over(0), 9);
        Check.due("over(9)", x.over(9), 6);
        Check.due("loud()", x.loud(), 5);
        Check.due("ears(5)", x.ears(5), 10);
        Check.due("price(20)", x.price(20), 0);
        Check.due("price(19)", x.price(19), 1);
        Check.due("price(5)", x.price(5), 2);
        Check.due("price(0)", x.price(0), 17);
        Check.due("homes()", x.homes(), 27);
        Check.due("swaps()", x.swaps(), 0);
        Check.due("swap()", x.swap(), -1);
        Check.due("flown(4, 1)", x.flown(4, 1), 10000);
        Check.due("flown(4, 0)", x.flown(4, 0), 1);
        Check.due("chance(1, 0)", x.chance(1, 0), 1);
        Check.due("chance(1, 1)", x.chance(1, 1), 100);
        Check.due("mean(0)", x.mean(0), 3);
        Check.due("mean(1)", x.mean(1), 100);
        Check.due("rests(0, 5)", x.rests(0, 5), 1);
        Check.due("fewest(63)", x.fewest(63), -1);
        Check.due("fewest(64)", x.fewest(64), -2);
        Check.due("most(0)", x.most(0), 2);
        Check.row(x, 0, 0);
        Check.due("began", x.began(0), 80);
        Check.due("spots", x.spots(0), (1 << 20) - 1);
        Check.due("laws", x.laws(0), 15);
        Check.due("ask", x.ask(0), -1);
    }

    private static void lesserLandBehindIt() {
        GooseShares x = Check.with(FULL);
        Check.due("a lesser land", Check.land(x, "land wide 2 high 1 law 0 ear 0 odds 0;flight at 1 heads 1 geese 3;"
                + "member at 0 wants 1 pays 1;"), 3);
        Check.due("served()", x.served(), 0);
        Check.due("unpaid()", x.unpaid(), 0);
        Check.due("first()", x.first(), -1);
        Check.due("lone()", x.lone(), 1);
        Check.due("lacks()", x.lacks(), 0);
        Check.due("loud()", x.loud(), 1);
        Check.due("quiet()", x.quiet(), 1);
        Check.due("calls(0)", x.calls(0), 3);
        Check.due("price(0)", x.price(0), 2);
        Check.due("homes()", x.homes(), 0);
        Check.due("swaps()", x.swaps(), 0);
        Check.due("mean(1)", x.mean(1), 1);
        Check.due("fewest(1)", x.fewest(1), -1);
        Check.due("fewest(2)", x.fewest(2), -2);
        Check.due("flight(1, 0)", x.flight(1, 0), -2);
        Check.due("member(1, 0)", x.member(1, 0), -2);
        Check.row(x, 0, 0, 0, 1);
        Check.due("began", x.began(0), 5);
        Check.due("who", x.who(0), -1);
    }

    private static void fewerFlightsBehindIt() {
        // The second flight of the fuller land would be heard in 9 and on its way to 5, were it still there.
        GooseShares x = Check.with(FULL);
        Check.due("fewer flights", Check.land(x, "land wide 5 high 4 law 2 ear 0 odds 0;flight at 0 heads 1 geese 1;"
                + "member at 9 wants 1 pays 1;"), 3);
        Check.due("heard(0)", x.heard(0), 0);
        Check.due("ears(7)", x.ears(7), 0);
        Check.due("served()", x.served(), 0);
        Check.due("loud()", x.loud(), 0);
        Check.due("drawn(1, 1)", x.drawn(1, 1), 0);
        Check.due("fewest(1)", x.fewest(1), -1);
    }

    private static void noLandBehindIt() {
        GooseShares x = Check.with(FULL);
        Check.due("an empty tape", x.land(), 0);
        for (int what = 0; what <= 11; what++) {
            Check.due("count(" + what + ")", x.count(what), 0);
        }
    }

    private static void threeLampsFromTheFirstCell() {
        // Round the four corners of 0 1 3 4: with three lamps it passes 0, 1, 4, 3 and comes back to 0.
        GooseShares x = Check.with("land wide 3 high 2 law 0 ear 0 odds 0;flight at 0 heads 0 geese 1;member at 0 wants 2 pays 1;");
        Check.due("four corners are too many", x.fewest(1), -1);
        // From 0 to the right it needs 1, 4 and 3 to be back in 0; 2, 5 and 3 would be the longer way.
        GooseShares y = Check.with("land wide 3 high 2 law 0 ear 0 odds 0;flight at 0 heads 1 geese 1;member at 0 wants 2 pays 1;");
        Check.due("fewest", y.fewest(1), 3);
        Check.due("lights", y.lights(1), 2 + 8 + 16);
        // From 4 to the left by 3 and 0 and 1 back to 4.
        GooseShares z = Check.with("land wide 3 high 2 law 0 ear 0 odds 0;flight at 4 heads 3 geese 1;member at 4 wants 2 pays 1;");
        Check.due("fewest by 0", z.fewest(1), 3);
        Check.due("lights by 0", z.lights(1), 1 + 2 + 8);
    }

    private static void leastOfTheFirstGroup() {
        String land = "land wide 3 high 3 law 0 ear 0 odds 5;flight at 0 heads 1 geese 2;member at 6 wants 2 pays 9;";
        Check.due("bests, the later group", Check.with(land + "member at 8 wants 2 pays 4;member at 4 wants 2 pays 4;").bests(2), 130);
        Check.due("bests, the earlier group", Check.with(land + "member at 4 wants 2 pays 4;member at 8 wants 2 pays 4;").bests(2), 130);
        // Two lamps serve no more than one: fewest lamps first.
        Check.due("bests of one", Check.with(land).bests(3), 1);
        Check.due("lights, fewest first", Check.with("land wide 5 high 1 law 2 ear 0 odds 0;flight at 4 heads 1 geese 1;"
                + "member at 0 wants 1 pays 1;").lights(1), 16);
    }

    private static void edges() {
        // Wants 1 and hears 1; loud in cell 1; two alone.
        GooseShares x = Check.with("land wide 3 high 1 law 0 ear 0 odds 2;flight at 1 heads 0 geese 1;member at 1 wants 1 pays 3;"
                + "member at 0 wants 0 pays 3;member at 2 wants 0 pays 3;");
        Check.due("served()", x.served(), 1);
        Check.due("unpaid()", x.unpaid(), 0);
        Check.due("loud()", x.loud(), 1);
        Check.due("lone()", x.lone(), 6);
        Check.due("cut(0, 0)", x.cut(0, 0), 0);
        Check.due("price(0)", x.price(0), 4);
        // Seeds go up from the one told.
        int nights = 0;
        for (int seed = 3; seed < 9; seed++) {
            long first = (1103515245L * seed + 12345) % 2147483648L / 65536 % 10;
            nights += first < 2 ? 0 : 1;
        }
        Check.due("luck(3, 6, 0)", x.luck(3, 6, 0), nights);
        // The first to hear is neither the first flight nor the last member without wants.
        GooseShares y = Check.with("land wide 5 high 1 law 0 ear 0 odds 0;flight at 0 heads 1 geese 1;flight at 3 heads 3 geese 1;"
                + "member at 2 wants 0 pays 0;member at 4 wants 0 pays 0;");
        Check.due("first()", y.first(), 1);
        GooseShares z = Check.with("land wide 2 high 3 law 0 ear 0 odds 0;member at 5 wants 1 pays 1;");
        Check.due("a member beyond a small land", Check.land(z, "land wide 2 high 3 law 0 ear 0 odds 0;member at 6 wants 1 pays 1;"), -4);
        Check.due("a flight beyond a small land", Check.land(z, "land wide 2 high 3 law 0 ear 0 odds 0;flight at 6 heads 1 geese 1;"), -4);
        Check.due("a lamp beyond a small land", Check.land(z, "land wide 2 high 3 law 0 ear 0 odds 0;lamp at 6;"), -4);
        Check.due("it stays", z.member(0, 0), 5);
    }
}
