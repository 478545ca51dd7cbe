/** Edges of Term IV and of promises 41 to 47. */
public final class EdgeClueTest {
    /** By every law it is in 0, 1, 2 and then out. */
    private static final String ROW = Edge.head(3, 1, 0, 0, 0) + Edge.flight(0, 1, 1) + Edge.flight(2, 1, 1) + Edge.member(0, 1, 1)
            + Edge.member(2, 0, 1);
    /** From 0 heading up: by law 0 round 0 1 3 2, by 1 out at 1, by 2 to and fro between 0 and 2, by 3 in 1 and out at 2. */
    private static final String BOX = Edge.head(2, 2, 0, 0, 0) + Edge.flight(0, 0, 1) + Edge.lamps(0, 1, 2, 3);
    /** As in EdgeSkyTest: from 14 to the left it would come to 15 at step 41, from 13 at step 40. */
    private static final int[] LAMPS = {0, 1, 2, 3, 4, 5, 9, 10, 12, 16, 18, 19};

    public static void main(String[] args) {
        p41Numbers();
        p41Lengths();
        p41Refusals();
        p41Laws();
        p41LastStep();
        p42Ask();
        p43Numbers();
        p43Lengths();
        p43Refusals();
        p43Began();
        p43LastStep();
        p45Who();
        p47Odds();
        Check.finish();
    }

    /** The row that tells these numbers, at the beginning or at the end of twenty sights or thirty reports that fit. */
    private static GooseShares told(String land, boolean last, int[] fitting, long... numbers) {
        GooseShares x = Check.with(land);
        int many = 60 / fitting.length;
        x.row(0, 3, 60);
        for (int i = 0; i < many; i++) {
            boolean here = i == (last ? many - 1 : 0);
            for (int k = 0; k < fitting.length; k++) {
                x.write(0, fitting.length * i + k, here ? numbers[k] : fitting[k]);
            }
        }
        return x;
    }

    private static void sight(long flight, long step, long cell, int laws) {
        for (boolean last : new boolean[] {false, true}) {
            GooseShares x = told(ROW, last, new int[] {0, 1, 1}, flight, step, cell);
            String told = "a sight " + flight + " " + step + " " + cell;
            Check.due("P41 " + told, x.laws(0), laws);
            Check.due("P42 " + told, x.ask(0), laws == -2 ? -2 : -1);
        }
    }

    private static void p41Numbers() {
        sight(0, 0, 0, 15);
        sight(1, 0, 2, 15);
        sight(1, 40, -1, 15);
        sight(0, 40, -1, 15);
        sight(0, 2, 2, 15);
        sight(0, 2, 0, 0);
        sight(0, 0, -1, 0);
        sight(1, 1, 2, 0);
        sight(2, 0, 0, -2);
        sight(-1, 0, 0, -2);
        sight(0, 41, -1, -2);
        sight(0, -1, 0, -2);
        sight(0, 0, 3, -2);
        sight(0, 0, -2, -2);
        sight(1L << 32, 0, 0, -2);
        sight(0, 1L << 32, 0, -2);
        sight(0, 0, 1L << 32, -2);
        sight(0, 40, -1L + (1L << 32), -2);
        sight(Long.MIN_VALUE, 0, 0, -2);
        sight(0, Long.MAX_VALUE, 0, -2);
        sight(0, 0, Long.MIN_VALUE, -2);
        // A number is looked at in its own place: the one flight at step 40, the last cell.
        GooseShares one = Check.with(Edge.head(5, 4, 0, 0, 0) + Edge.flight(19, 1, 1));
        Check.row(one, 0, 0, 0, 0, 19, 0, 40, -1);
        Check.due("P41 one flight twice", one.laws(0), 15);
        // None such, though an earlier one does not fit already.
        GooseShares x = Check.with(ROW);
        Check.row(x, 0, 0, 0, 0, 1, 2, 0, 0);
        Check.due("P41 one that does not fit, one that is none", x.laws(0), -2);
        Check.due("P42 one that does not fit, one that is none", x.ask(0), -2);
        GooseShares none = Check.with(Edge.head(3, 1, 0, 0, 0));
        Check.row(none, 0, 0, 0, 0, 0);
        Check.due("P41 no flight at all", none.laws(0), -2);
        Check.due("P42 no flight at all", none.ask(0), -2);
    }

    private static void p41Lengths() {
        for (int n = 0; n <= 60; n++) {
            GooseShares x = Check.with(ROW);
            x.row(1, n % 4, n);
            Check.due("P41 of " + n + " numbers", x.laws(1), n % 3 == 0 ? 15 : -2);
            Check.due("P42 of " + n + " numbers", x.ask(1), n % 3 == 0 ? -1 : -2);
        }
    }

    private static void p41Refusals() {
        for (int slot = 0; slot < 4; slot++) {
            int nothing = slot;
            Edge.refused("P41 nothing", () -> Check.with(ROW), x -> x.laws(nothing), -6);
            Edge.refused("P42 nothing", () -> Check.with(ROW), x -> x.ask(nothing), -6);
            Edge.refused("P41 no land ahead of nothing", GooseShares::new, x -> x.laws(nothing), -2);
            Edge.refused("P42 no land ahead of nothing", GooseShares::new, x -> x.ask(nothing), -2);
        }
        for (int slot : new int[] {-1, 4, Integer.MIN_VALUE, Integer.MAX_VALUE}) {
            Edge.refused("P41 no slot ahead of nothing", () -> Check.with(ROW), x -> x.laws(slot), -2);
            Edge.refused("P42 no slot ahead of nothing", () -> Check.with(ROW), x -> x.ask(slot), -2);
        }
    }

    private static void box(int laws, int ask, long... numbers) {
        GooseShares x = Check.with(BOX);
        Check.row(x, 3, 0, numbers);
        String told = java.util.Arrays.toString(numbers);
        Check.due("P41 laws of " + told, x.laws(3), laws);
        Check.due("P42 ask of " + told, x.ask(3), ask);
        Check.due("P41 the law stays", x.count(2), 0);
    }

    private static void p41Laws() {
        box(15, 0);
        box(15, 0, 0, 0, 0);
        box(0, -1, 0, 0, -1);
        box(9, 0, 0, 1, 1);
        box(2, -1, 0, 1, -1);
        box(4, -1, 0, 1, 2);
        box(10, 0, 0, 2, -1);
        box(1, -1, 0, 2, 3);
        box(10, 0, 0, 40, -1);
        box(0, -1, 0, 1, 1, 0, 1, -1);
        box(8, -1, 0, 1, 1, 0, 2, -1);
    }

    /** By law 0 it is in 15 at step 40, or would be at 41. */
    private static void p41LastStep() {
        GooseShares x = Check.with(Edge.head(5, 4, 1, 0, 0) + Edge.lamps(LAMPS) + Edge.flight(13, 3, 1) + Edge.flight(14, 3, 1)
                + Edge.flight(12, 3, 1));
        int[][] sights = {{0, 40, 15, 1}, {0, 40, -1, 0}, {1, 40, 16, 1}, {1, 40, 15, 0}, {2, 40, -1, 1}, {2, 39, 15, 1}, {2, 40, 15, 0}};
        for (int[] sight : sights) {
            Check.row(x, 0, 0, sight[0], sight[1], sight[2]);
            Check.due("P41 law 0 at the last step", x.laws(0) & 1, sight[3]);
        }
    }

    private static void p42Ask() {
        // By laws 0 and 2 it is in 0 at step 40 and never out: to know that tells nothing.
        box(5, -1, 0, 40, 0);
        // By 0 never out, by 3 out at 2: never is an answer too.
        box(9, 0, 0, 1, 1);
        // The first flight tells nothing, two others the same: the first of these.
        GooseShares x = Check.with(Edge.head(2, 2, 0, 0, 0) + Edge.lamps(0, 1, 2) + Edge.flight(3, 1, 1) + Edge.flight(0, 0, 1)
                + Edge.flight(0, 0, 1));
        x.row(0, 0, 0);
        Check.due("P42 the first of two", x.ask(0), 1);
        // Fewer at worst, though a later flight: the second leaves 1, the first 2.
        GooseShares y = Check.with(Edge.head(3, 2, 0, 0, 0) + Edge.lamps(1) + Edge.flight(2, 3, 1) + Edge.flight(0, 1, 1));
        // 2 1, then by right up (out at 2), left 4 (out at 3), back 2 (out at 3), odd is left (3).
        // 0 1, then by right 4 (out at 3), left up (2), back 0 (3), odd is left (2).
        y.row(0, 0, 0);
        int[][] outs = {{2, 3}, {3, 2}, {3, 3}, {3, 2}};
        for (int law = 0; law < 4; law++) {
            GooseShares z = Check.with(Edge.head(3, 2, law, 0, 0) + Edge.lamps(1) + Edge.flight(2, 3, 1) + Edge.flight(0, 1, 1));
            Check.due("P11 by law " + law, z.out(0), outs[law][0]);
            Check.due("P11 by law " + law, z.out(1), outs[law][1]);
        }
        Check.due("P42 the fewest at worst", y.ask(0), 1);
        Check.due("P42 no flight", askOfNone(), -1);
    }

    private static int askOfNone() {
        GooseShares x = Check.with(Edge.head(1, 1, 0, 0, 0));
        x.row(0, 0, 0);
        return x.ask(0);
    }

    private static void report(long member, long heard, int began) {
        for (boolean last : new boolean[] {false, true}) {
            GooseShares x = told(ROW, last, new int[] {0, 1}, member, heard);
            String told = "a report " + member + " " + heard;
            Check.due("P43 " + told, x.began(0), began);
            Check.due("P44 " + told, x.spots(0) == -2 ? 1 : 0, began == -2 ? 1 : 0);
            Check.due("P45 " + told, x.who(0) == -2 ? 1 : 0, began == -2 ? 1 : 0);
            Check.due("P46 " + told, x.leaves(0) == -2 ? 1 : 0, began == -2 ? 1 : 0);
            Check.due("P47 " + told, x.odds(0, 1, 1) == -2 ? 1 : 0, began == -2 ? 1 : 0);
        }
    }

    private static void p43Numbers() {
        // The first member hears the four from 0 and those from 1 and 2 to the left: six; both hear two of them.
        report(0, 1, 6);
        report(0, 0, 0);
        report(1, 1, 2);
        report(1, 0, 4);
        report(2, 0, -2);
        report(-1, 0, -2);
        report(0, 2, -2);
        report(0, -1, -2);
        report(1L << 32, 0, -2);
        report(0, 1L << 32, -2);
        report(Long.MIN_VALUE, 0, -2);
        report(0, Long.MAX_VALUE, -2);
        GooseShares x = Check.with(ROW);
        Check.row(x, 0, 0, 0, 0, 0, 1, 2, 0);
        Check.due("P43 none fits, one is none such", x.began(0), -2);
        // A number is looked at in its own place: one member alone told twice, the last of six.
        GooseShares one = Check.with(Edge.head(3, 1, 0, 0, 0) + Edge.member(0, 0, 0));
        Check.row(one, 0, 0, 0, 1, 0, 1);
        Check.due("P43 one member twice", one.began(0), 6);
        GooseShares six = Check.with(Edge.head(3, 1, 0, 0, 0) + Edge.member(0, 0, 0).repeat(6));
        Check.row(six, 0, 0, 5, 1, 4, 1);
        Check.due("P43 the last of six", six.began(0), 6);
        Check.row(six, 0, 0, 5, 1, 6, 1);
        Check.due("P43 a seventh", six.began(0), -2);
        GooseShares none = Check.with(Edge.head(3, 1, 0, 0, 0) + Edge.flight(0, 1, 1));
        Check.row(none, 0, 0, 0, 0);
        Check.due("P43 no member at all", none.began(0), -2);
        Check.due("P45 no member at all", none.who(0), -2);
    }

    private static void p43Lengths() {
        for (int n = 0; n <= 60; n++) {
            GooseShares x = Check.with(ROW);
            x.row(1, n % 4, n);
            // All 0: the first member did not hear it.
            Check.due("P43 of " + n + " numbers", x.began(1), n % 2 == 1 ? -2 : n == 0 ? 12 : 6);
            Check.due("P44 of " + n + " numbers", x.spots(1), n % 2 == 1 ? -2 : n == 0 ? 7 : 6);
            Check.due("P45 of " + n + " numbers", x.who(1), n % 2 == 1 ? -2 : n == 0 ? 0 : 1);
            Check.due("P46 of " + n + " numbers", x.leaves(1), n % 2 == 1 ? -2 : n == 0 ? 6 : 4);
            Check.due("P47 of " + n + " numbers", x.odds(1, 0, 1), n % 2 == 1 ? -2 : n == 0 ? 2 : 1);
        }
    }

    private static void p43Refusals() {
        Edge.Make make = () -> Check.with(ROW);
        for (int slot = 0; slot < 4; slot++) {
            int nothing = slot;
            Edge.refused("P43 nothing", make, x -> x.began(nothing), -6);
            Edge.refused("P44 nothing", make, x -> x.spots(nothing), -6);
            Edge.refused("P45 nothing", make, x -> x.who(nothing), -6);
            Edge.refused("P46 nothing", make, x -> x.leaves(nothing), -6);
            Edge.refused("P47 nothing", make, x -> x.odds(nothing, 0, 0), -6);
            Edge.refused("P47 no member ahead of nothing", make, x -> x.odds(nothing, 2, 0), -2);
            Edge.refused("P47 no member ahead of nothing", make, x -> x.odds(nothing, -1, 0), -2);
            Edge.refused("P47 no what ahead of nothing", make, x -> x.odds(nothing, 0, 2), -2);
            Edge.refused("P47 no what ahead of nothing", make, x -> x.odds(nothing, 0, -1), -2);
            Edge.refused("P43 no land ahead of nothing", GooseShares::new, x -> x.began(nothing), -2);
            Edge.refused("P44 no land ahead of nothing", GooseShares::new, x -> x.spots(nothing), -2);
            Edge.refused("P45 no land ahead of nothing", GooseShares::new, x -> x.who(nothing), -2);
            Edge.refused("P46 no land ahead of nothing", GooseShares::new, x -> x.leaves(nothing), -2);
            Edge.refused("P47 no land ahead of nothing", GooseShares::new, x -> x.odds(nothing, 0, 0), -2);
        }
        for (int slot : new int[] {-1, 4, Integer.MIN_VALUE, Integer.MAX_VALUE}) {
            Edge.refused("P43 no slot", make, x -> x.began(slot), -2);
            Edge.refused("P44 no slot", make, x -> x.spots(slot), -2);
            Edge.refused("P45 no slot", make, x -> x.who(slot), -2);
            Edge.refused("P46 no slot", make, x -> x.leaves(slot), -2);
            Edge.refused("P47 no slot", make, x -> x.odds(slot, 0, 0), -2);
        }
    }

    private static void began(String land, int many, int spots, long... numbers) {
        GooseShares x = Check.with(land);
        Check.row(x, 2, 2, numbers);
        Check.due("P43 of " + land, x.began(2), many);
        Check.due("P44 of " + land, x.spots(2), spots);
    }

    private static void p43Began() {
        // Four headings for each cell, in the least land and the greatest.
        began(Edge.head(1, 1, 0, 0, 0), 4, 1);
        began(Edge.head(5, 4, 0, 0, 0), 80, (1 << 20) - 1);
        // Flights that are there and fog play no part; lamps and the law as now do.
        String corner = Edge.head(2, 2, 0, 0, 10) + Edge.flight(0, 1, 20).repeat(4) + Edge.member(3, 99, 99);
        began(corner, 6, 8 + 4 + 2, 0, 1);
        began(corner + Edge.lamps(1), 7, 8 + 4 + 2 + 1, 0, 1);
        began(corner, 10, 1 + 2 + 4, 0, 0);
        // At the ear's edge: all that come within one cell.
        began(Edge.head(3, 1, 0, 1, 0) + Edge.member(0, 0, 0), 9, 7, 0, 1);
        began(Edge.head(3, 1, 0, 1, 0) + Edge.member(0, 0, 0), 3, 4, 0, 0);
        // By a lamp at 0, back: of those from 0 only the one that would go up comes to 1.
        began(Edge.head(1, 2, 2, 0, 0) + Edge.member(1, 0, 0) + Edge.lamps(0), 5, 3, 0, 1);
        began(Edge.head(1, 2, 2, 0, 0) + Edge.member(1, 0, 0) + Edge.lamps(0), 3, 1, 0, 0);
        // None at all.
        began(Edge.head(3, 1, 0, 8, 0) + Edge.member(0, 0, 0), 0, 0, 0, 0);
        began(Edge.head(3, 1, 0, 8, 0) + Edge.member(0, 0, 0), 12, 7, 0, 1);
    }

    /** Counted once more by hand, to step 40, and so that a step less and one more would tell another number. */
    private static void p43LastStep() {
        String land = Edge.head(5, 4, 0, 0, 0) + Edge.lamps(LAMPS) + Edge.member(15, 0, 0);
        int[] due = {coming(39), coming(40), coming(41)};
        Check.due("P43 the last step is told apart", due[0] < due[1] && due[1] < due[2] ? 0 : 1, 0);
        GooseShares x = Check.with(land);
        Check.row(x, 0, 0, 0, 1);
        Check.due("P43 to step 40", x.began(0), due[1]);
        Check.due("P47 to step 40", x.odds(0, 0, 1), 1);
        Check.row(x, 0, 0, 0, 0);
        Check.due("P43 not to step 40", x.began(0), 80 - due[1]);
        Check.due("P46 not to step 40", x.leaves(0), 80 - due[1]);
    }

    private static int coming(int last) {
        int lit = 0;
        for (int lamp : LAMPS) {
            lit |= 1 << lamp;
        }
        int many = 0;
        for (int pair = 0; pair < 80; pair++) {
            int row = pair / 4 / 5;
            int column = pair / 4 % 5;
            int head = pair % 4;
            for (int step = 0; step <= last && row >= 0 && row < 4 && column >= 0 && column < 5; step++) {
                if (row == 3 && column == 0) {
                    many++;
                    break;
                }
                head = (lit >> 5 * row + column & 1) == 1 ? (head + 1) % 4 : head;
                row += head == 2 ? 1 : head == 0 ? -1 : 0;
                column += head == 1 ? 1 : head == 3 ? -1 : 0;
            }
        }
        return many;
    }

    private static void whoIs(GooseShares x, int who, int leaves, long... numbers) {
        Check.row(x, 0, 0, numbers);
        String told = java.util.Arrays.toString(numbers);
        Check.due("P45 who of " + told, x.who(0), who);
        Check.due("P46 leaves of " + told, x.leaves(0), leaves);
    }

    private static void p45Who() {
        GooseShares x = Check.with(ROW);
        // Of twelve each of the two hears six: the first.
        whoIs(x, 0, 6);
        whoIs(x, 1, 4, 0, 1);
        whoIs(x, -1, 2, 0, 1, 1, 1);
        whoIs(x, -1, 4, 0, 1, 1, 0);
        whoIs(x, -1, 2, 0, 0, 1, 0);
        whoIs(x, -1, 0, 0, 0, 0, 1);
        // The second leaves fewer at worst: of the twenty in a row of five the middle hears 14, the end 11.
        GooseShares y = Check.with(Edge.head(5, 1, 0, 1, 0) + Edge.member(2, 0, 0) + Edge.member(0, 0, 0));
        whoIs(y, 1, 11);
        // Who hears all, or nothing more than is known, tells nothing.
        GooseShares all = Check.with(Edge.head(3, 1, 0, 8, 0) + Edge.member(1, 0, 0).repeat(6));
        whoIs(all, -1, 12);
        whoIs(Check.with(Edge.head(3, 1, 0, 8, 0)), -1, 12);
        // Of two one is told apart.
        GooseShares last = Check.with(Edge.head(2, 1, 0, 0, 0) + Edge.member(0, 0, 0).repeat(5) + Edge.member(1, 0, 0));
        whoIs(last, 5, 3, 0, 1);
    }

    private static void oddsAre(GooseShares x, int member, int above, int below) {
        Check.due("P47 above of " + member, x.odds(0, member, 0), above);
        Check.due("P47 below of " + member, x.odds(0, member, 1), below);
    }

    private static void p47Odds() {
        GooseShares x = Check.with(ROW);
        x.row(0, 0, 0);
        oddsAre(x, 0, 1, 2);
        oddsAre(x, 1, 1, 2);
        Check.row(x, 0, 0, 0, 1);
        oddsAre(x, 0, 1, 1);
        oddsAre(x, 1, 1, 3);
        Check.row(x, 0, 0, 0, 0);
        oddsAre(x, 0, 0, 1);
        oddsAre(x, 1, 2, 3);
        Check.row(x, 0, 0, 0, 0, 0, 1);
        oddsAre(x, 0, -1, -1);
        Check.due("P47 no member ahead of none", x.odds(0, 2, 0), -2);
        Check.due("P47 no what ahead of none", x.odds(0, 0, 2), -2);
        Check.due("P47 no slot ahead of none", x.odds(4, 0, 0), -2);
        Check.row(x, 0, 0, 0, 2);
        Check.due("P47 none such", x.odds(0, 0, 0), -2);
    }
}
