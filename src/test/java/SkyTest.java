/** Promises 9 to 31: where flights fly, who hears them, who is served. */
public final class SkyTest {
    // Flight 0 goes 5 6 7, there to its right, 12 17; flight 1 goes 2 7, there to its right, 6 5.
    private static final String LAND = "land wide 5 high 4 law 0 ear 1 odds 3; flight at 5 heads 1 geese 4;"
            + "flight at 2 heads 2 geese 7; member at 9 wants 4 pays 10; member at 17 wants 8 pays 20;"
            + "member at 11 wants 0 pays 5; lamp at 7;";

    public static void main(String[] args) {
        flying();
        cells();
        hearing();
        serving();
        lawsOfTurning();
        flyingOnAndOn();
        wrongOnes();
        ties();
        emptyLand();
        Check.finish();
    }

    private static void flying() {
        GooseShares x = Check.with(LAND);
        int[][] at = {{5, 6, 7, 12, 17, -1, -1}, {2, 7, 6, 5, -1, -1, -1}};
        int[][] heads = {{1, 1, 2, 2, 2, -1, -1}, {2, 3, 3, 3, -1, -1, -1}};
        for (int flight = 0; flight < 2; flight++) {
            for (int step = 0; step < 7; step++) {
                Check.due("at(" + flight + ", " + step + ")", x.at(flight, step), at[flight][step]);
                Check.due("heads(" + flight + ", " + step + ")", x.heads(flight, step), heads[flight][step]);
            }
            Check.due("at 40", x.at(flight, 40), -1);
            Check.due("heads 40", x.heads(flight, 40), -1);
            Check.due("bends", x.bends(flight), 1);
        }
        Check.due("out(0)", x.out(0), 5);
        Check.due("out(1)", x.out(1), 4);
        Check.due("way(0)", x.way(0), 32 + 64 + 128 + 4096 + 131072);
        Check.due("way(1)", x.way(1), 4 + 32 + 64 + 128);
        Check.due("meets(0, 1)", x.meets(0, 1), -1);
        Check.due("meets(0, 0)", x.meets(0, 0), 0);
        Check.due("farthest(0)", x.farthest(0), 17);
        Check.due("farthest(1)", x.farthest(1), 5);
    }

    private static void cells() {
        GooseShares x = Check.with(LAND);
        Check.due("over(6)", x.over(6), 3);
        Check.due("over(2)", x.over(2), 2);
        Check.due("over(12)", x.over(12), 1);
        Check.due("over(0)", x.over(0), 0);
        Check.due("geese(7, 1)", x.geese(7, 1), 7);
        Check.due("geese(7, 2)", x.geese(7, 2), 4);
        Check.due("geese(7, 3)", x.geese(7, 3), 0);
        Check.due("calls(0)", x.calls(0), 11);
        Check.due("calls(3)", x.calls(3), 11);
        Check.due("calls(4)", x.calls(4), 4);
        Check.due("calls(5)", x.calls(5), 0);
        Check.due("calls(40)", x.calls(40), 0);
        Check.due("ears(6)", x.ears(6), 33);
        Check.due("ears(7)", x.ears(7), 33);
        Check.due("ears(11)", x.ears(11), 15);
        Check.due("ears(9)", x.ears(9), 0);
        Check.due("loud()", x.loud(), 6);
        Check.due("quiet()", x.quiet(), 1 << 4 | 1 << 9 | 1 << 14 | 1 << 15 | 1 << 19);
    }

    private static void hearing() {
        GooseShares x = Check.with(LAND);
        int[][] hears = {{0, 0}, {2, 0}, {2, 1}};
        int[] heard = {0, 8, 15};
        int[] near = {0, 1, 3};
        for (int member = 0; member < 3; member++) {
            Check.due("hears(" + member + ", 0)", x.hears(member, 0), hears[member][0]);
            Check.due("hears(" + member + ", 1)", x.hears(member, 1), hears[member][1]);
            Check.due("heard(" + member + ")", x.heard(member), heard[member]);
            Check.due("near(" + member + ")", x.near(member), near[member]);
        }
        Check.due("lone()", x.lone(), 1);
    }

    private static void serving() {
        GooseShares x = Check.with(LAND);
        Check.due("served()", x.served(), 2);
        Check.due("income()", x.income(), 20);
        Check.due("unpaid()", x.unpaid(), 4);
        Check.due("first()", x.first(), 1);
        Check.due("lacks()", x.lacks(), 0);
        Check.due("spare()", x.spare(), 0);
        // Without the lamp flight 0 goes on by 8 9, flight 1 by 12 17.
        x.light(7, 0);
        Check.due("served() unlit", x.served(), 3);
        Check.due("income() unlit", x.income(), 30);
        Check.due("spare() unlit", x.spare(), 8 - 4 + 14 - 8);
        Check.due("lacks() unlit", x.lacks(), -1);
        Check.due("lone() unlit", x.lone(), 0);
        Check.due("meets() unlit", x.meets(0, 1), -1);
        // Turned up, flight 0 is out at step 2, and no member without wants hears it at 5 and 0.
        x.turn(0, 0);
        Check.due("first() turned", x.first(), 2);
        Check.due("heard(2) turned", x.heard(2), 7);
        x.turn(1, 0);
        Check.due("first() of none", x.first(), -1);
        Check.due("unpaid() of none", x.unpaid(), 0);
        Check.due("lacks() most", x.lacks(), 1);
    }

    private static void lawsOfTurning() {
        // From the middle, at step 2 (even) of a flight from 10 and at step 1 (odd) of one from 11.
        int[] even = {17, 7, 11, 17};
        int[] odd = {17, 7, 11, 7};
        int[] headsEven = {2, 0, 3, 2};
        int[] headsOdd = {2, 0, 3, 0};
        for (int law = 0; law < 4; law++) {
            GooseShares x = Check.with("land wide 5 high 4 law " + law + " ear 0 odds 0;"
                    + "flight at 10 heads 1 geese 1;flight at 11 heads 1 geese 1;lamp at 12;");
            Check.due("law " + law + " even", x.at(0, 3), even[law]);
            Check.due("law " + law + " odd", x.at(1, 2), odd[law]);
            Check.due("law " + law + " heads even", x.heads(0, 2), headsEven[law]);
            Check.due("law " + law + " heads odd", x.heads(1, 1), headsOdd[law]);
        }
        // At step 0 too, from every heading: right and left.
        int[] right = {1, 2, 3, 0};
        int[] left = {3, 0, 1, 2};
        int[] around = {2, 3, 0, 1};
        for (int head = 0; head < 4; head++) {
            String rest = " ear 0 odds 0;flight at 4 heads " + head + " geese 1;lamp at 4;";
            Check.due("right of " + head, Check.with("land wide 3 high 3 law 0" + rest).heads(0, 0), right[head]);
            Check.due("left of " + head, Check.with("land wide 3 high 3 law 1" + rest).heads(0, 0), left[head]);
            Check.due("back of " + head, Check.with("land wide 3 high 3 law 2" + rest).heads(0, 0), around[head]);
            Check.due("even of " + head, Check.with("land wide 3 high 3 law 3" + rest).heads(0, 0), right[head]);
        }
    }

    private static void flyingOnAndOn() {
        // Four lamps in the corners, always to the right: round and round, a corner at each step.
        GooseShares x = Check.with("land wide 2 high 2 law 0 ear 0 odds 0;flight at 0 heads 0 geese 20;"
                + "member at 0 wants 99 pays 1;lamp at 0;lamp at 1;lamp at 2;lamp at 3;");
        Check.due("out", x.out(0), -1);
        Check.due("at 40", x.at(0, 40), 0);
        Check.due("at 39", x.at(0, 39), 2);
        Check.due("heads 40", x.heads(0, 40), 1);
        Check.due("bends", x.bends(0), 41);
        Check.due("way", x.way(0), 15);
        Check.due("hears", x.hears(0, 0), 11);
        Check.due("heard", x.heard(0), 220);
        Check.due("spare", x.spare(), 121);
        Check.due("calls(40)", x.calls(40), 20);
        Check.due("geese(0, 40)", x.geese(0, 40), 20);
        Check.due("farthest", x.farthest(0), 3);
        // In one row, there and back by law 2: in the end cell it turns at step 40 again.
        GooseShares y = Check.with("land wide 5 high 1 law 2 ear 0 odds 0;flight at 0 heads 3 geese 1;lamp at 0;lamp at 4;");
        Check.due("bends there and back", y.bends(0), 11);
        Check.due("heads 40 there and back", y.heads(0, 40), 1);
        Check.due("at 40 there and back", y.at(0, 40), 0);
        Check.due("at 36 there and back", y.at(0, 36), 4);
    }

    private static void wrongOnes() {
        GooseShares x = Check.with(LAND);
        int[] noFlights = {-1, 2, 4, Integer.MIN_VALUE, Integer.MAX_VALUE};
        for (int no : noFlights) {
            Check.due("at " + no, x.at(no, 0), -2);
            Check.due("heads " + no, x.heads(no, 0), -2);
            Check.due("out " + no, x.out(no), -2);
            Check.due("bends " + no, x.bends(no), -2);
            Check.due("way " + no, x.way(no), -2);
            Check.due("hears " + no, x.hears(0, no), -2);
            Check.due("meets " + no, x.meets(0, no), -2);
            Check.due("meets " + no, x.meets(no, 0), -2);
            Check.due("farthest " + no, x.farthest(no), -2);
        }
        int[] noSteps = {-1, 41, Integer.MIN_VALUE, Integer.MAX_VALUE};
        for (int no : noSteps) {
            Check.due("at step " + no, x.at(0, no), -2);
            Check.due("heads step " + no, x.heads(0, no), -2);
            Check.due("geese step " + no, x.geese(0, no), -2);
            Check.due("calls step " + no, x.calls(no), -2);
        }
        int[] noCells = {-1, 20, Integer.MIN_VALUE, Integer.MAX_VALUE};
        for (int no : noCells) {
            Check.due("over " + no, x.over(no), -2);
            Check.due("geese " + no, x.geese(no, 0), -2);
            Check.due("ears " + no, x.ears(no), -2);
        }
        int[] noMembers = {-1, 3, 6, Integer.MIN_VALUE, Integer.MAX_VALUE};
        for (int no : noMembers) {
            Check.due("hears member " + no, x.hears(no, 0), -2);
            Check.due("heard " + no, x.heard(no), -2);
            Check.due("near " + no, x.near(no), -2);
        }
        Check.due("a cell beyond a small land", Check.with("land wide 2 high 2 law 0 ear 0 odds 0;").ears(4), -2);
    }

    private static void ties() {
        // Two flights side by side meet at step 1 only if one turns; here they come head on.
        GooseShares x = Check.with("land wide 5 high 1 law 0 ear 0 odds 0;flight at 0 heads 1 geese 1;"
                + "flight at 4 heads 3 geese 2;flight at 3 heads 3 geese 4;member at 0 wants 9 pays 3;member at 4 wants 5 pays 4;");
        Check.due("meets in the middle", x.meets(0, 1), 2);
        Check.due("meets the other way", x.meets(1, 0), 2);
        Check.due("they pass one another", x.meets(0, 2), -1);
        // Cells 0 to 3 hear 1, 2 and 4; cell 4 hears 1 and 2.
        Check.due("loud, the least", x.loud(), 0);
        Check.due("ears(3)", x.ears(3), 7);
        Check.due("ears(4)", x.ears(4), 3);
        Check.due("both lack 2, the first", x.lacks(), 0);
        Check.due("geese together", x.geese(2, 2), 3);
        // Equally far up and down from the middle: the lesser cell, though it is reached later.
        GooseShares y = Check.with("land wide 1 high 3 law 2 ear 0 odds 0;flight at 1 heads 2 geese 1;lamp at 2;");
        Check.due("farthest, the least", y.farthest(0), 0);
        Check.due("way", y.way(0), 7);
        // Wants exactly what he hears.
        GooseShares z = Check.with("land wide 1 high 1 law 0 ear 0 odds 0;flight at 0 heads 0 geese 7;"
                + "member at 0 wants 7 pays 1;member at 0 wants 8 pays 2;member at 0 wants 0 pays 4;");
        Check.due("served exactly", z.served(), 1);
        Check.due("income exactly", z.income(), 1);
        Check.due("first at once", z.first(), 0);
        Check.due("unpaid", z.unpaid(), 4);
        Check.due("lacks one", z.lacks(), 1);
        Check.due("out at once", z.out(0), 1);
    }

    private static void emptyLand() {
        GooseShares x = Check.with("land wide 5 high 4 law 0 ear 8 odds 10;");
        Check.due("loud()", x.loud(), 0);
        Check.due("quiet()", x.quiet(), (1 << 20) - 1);
        Check.due("served()", x.served(), 0);
        Check.due("income()", x.income(), 0);
        Check.due("unpaid()", x.unpaid(), 0);
        Check.due("first()", x.first(), -1);
        Check.due("lacks()", x.lacks(), -1);
        Check.due("lone()", x.lone(), 0);
        Check.due("spare()", x.spare(), 0);
        Check.due("calls(0)", x.calls(0), 0);
        Check.due("geese(0, 0)", x.geese(0, 0), 0);
        Check.due("over(0)", x.over(0), 0);
        Check.due("ears(19)", x.ears(19), 0);
        GooseShares none = new GooseShares();
        int[] answers = {none.at(0, 0), none.heads(0, 0), none.out(0), none.bends(0), none.way(0), none.over(0),
            none.geese(0, 0), none.hears(0, 0), none.heard(0), none.ears(0), none.loud(), none.quiet(), none.served(),
            none.income(), none.unpaid(), none.first(), none.lacks(), none.near(0), none.lone(), none.meets(0, 0),
            none.spare(), none.calls(0), none.farthest(0)};
        for (int i = 0; i < answers.length; i++) {
            Check.due("promise " + (9 + i) + " without a land", answers[i], -2);
        }
    }
}
