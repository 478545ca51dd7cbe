/** Edges of Terms V and VII, and of promises 48 to 52, 54 and 55. */
public final class EdgeShareTest {
    /** In the first row loudness is 1 2 3 4 4, in the second nothing is heard. */
    private static final String STAIR = Edge.head(5, 2, 0, 0, 0) + Edge.flight(0, 1, 1) + Edge.flight(1, 1, 1) + Edge.flight(2, 1, 1)
            + Edge.flight(3, 1, 1);
    /** From 1 to the right: thrown back at 3, and at 0 again. */
    private static final String LANE = Edge.head(4, 1, 2, 0, 0) + Edge.flight(1, 1, 1);

    public static void main(String[] args) {
        p48Homes();
        p49Home();
        p50Swaps();
        p51Swap();
        p52Price();
        p52Edges();
        p54Rests();
        p55Has();
        p55OneCell();
        lastStep();
        Check.finish();
    }

    private static void homes(String members, int due, int... cells) {
        GooseShares x = Check.with(STAIR + members);
        Check.due("P48 homes() of " + members, x.homes(), due);
        for (int member = 0; member < cells.length; member++) {
            Check.due("P49 home(" + member + ") of " + members, x.home(member), cells[member]);
        }
        Check.due("P49 no such member", x.home(cells.length), -2);
        Check.due("P49 no such member", x.home(-1), -2);
    }

    private static void p48Homes() {
        homes("", 0);
        homes(Edge.member(2, 3, 9), 9, 2);
        homes(Edge.member(2, 4, 9), 0, 2);
        homes(Edge.member(2, 0, 9), 0, 2);
        // As they live it is the greatest: they stay; by a swap greater.
        homes(Edge.member(0, 1, 9) + Edge.member(1, 2, 8), 17, 0, 1);
        homes(Edge.member(0, 2, 9) + Edge.member(1, 1, 8), 17, 1, 0);
        homes(Edge.member(0, 2, 9) + Edge.member(1, 2, 8), 9, 1, 0);
        homes(Edge.member(0, 2, 8) + Edge.member(1, 2, 9), 9, 0, 1);
        // Six of the most: 594 by the only order but for two alike.
        homes(Edge.member(4, 1, 99) + Edge.member(3, 2, 99) + Edge.member(2, 3, 99) + Edge.member(1, 4, 99) + Edge.member(0, 4, 99)
                + Edge.member(0, 1, 99), 594, 0, 1, 2, 3, 4, 0);
    }

    private static void p49Home() {
        // Alike for both: the least row, the first member in the least cell.
        homes(Edge.member(3, 1, 5) + Edge.member(1, 1, 5), 10, 1, 3);
        homes(Edge.member(1, 1, 5) + Edge.member(3, 1, 5), 10, 1, 3);
        homes(Edge.member(1, 1, 5) + Edge.member(3, 1, 5) + Edge.member(2, 1, 5), 15, 1, 2, 3);
        // The first takes the least cell only if all others still pay the most.
        homes(Edge.member(3, 1, 5) + Edge.member(1, 4, 5), 10, 1, 3);
        homes(Edge.member(1, 4, 5) + Edge.member(3, 1, 5), 10, 3, 1);
        // None can be served: the cells in their order.
        homes(Edge.member(9, 99, 5) + Edge.member(7, 99, 5) + Edge.member(8, 99, 5), 0, 7, 8, 9);
        // Two live in one cell.
        homes(Edge.member(4, 99, 5) + Edge.member(4, 99, 5) + Edge.member(0, 99, 5), 0, 0, 4, 4);
        GooseShares x = Check.with(STAIR + Edge.member(3, 1, 5) + Edge.member(1, 1, 5));
        x.home(0);
        Check.due("P49 they stay where they are", x.member(0, 0), 3);
        // Asked again when less is to be had, and in a land of fewer members.
        GooseShares again = Check.with(STAIR + Edge.member(3, 1, 50).repeat(6));
        Check.due("P48 six of fifty", again.homes(), 300);
        again.rate(5, 1);
        Check.due("P48 one of them pays less", again.homes(), 251);
        Check.land(again, STAIR + Edge.member(3, 1, 5).repeat(2));
        Check.due("P48 two of five", again.homes(), 10);
        // By lamps as now: the first row is left at once.
        GooseShares lit = Check.with(STAIR + Edge.member(3, 3, 5) + Edge.member(5, 1, 5) + Edge.lamps(0));
        Check.due("P48 by the lamp 5 hears one", lit.homes(), 10);
    }

    private static void p50Swaps() {
        swaps("", 0, -1);
        swaps(Edge.member(0, 2, 1), 0, -1);
        // Both as they are, or one of both, or none served now; both then.
        swaps(Edge.member(0, 1, 1) + Edge.member(1, 2, 1), 0, -1);
        swaps(Edge.member(0, 2, 1) + Edge.member(1, 1, 1), 1, 1);
        swaps(Edge.member(0, 4, 1) + Edge.member(3, 1, 1), 1, 1);
        // Both served now and then: no such pair.
        swaps(Edge.member(1, 1, 1) + Edge.member(2, 1, 1), 0, -1);
        // Only one of them then; one who wants nothing.
        swaps(Edge.member(0, 2, 1) + Edge.member(1, 2, 1), 0, -1);
        swaps(Edge.member(0, 2, 1) + Edge.member(1, 0, 1), 0, -1);
        // One goose too few then.
        swaps(Edge.member(0, 3, 1) + Edge.member(1, 1, 1), 0, -1);
        // One of five quiet ones with each of a loud one.
        swaps(Edge.member(0, 2, 1).repeat(5) + Edge.member(1, 1, 1), 5, 5);
        swaps(Edge.member(0, 2, 1).repeat(3) + Edge.member(1, 1, 1).repeat(3), 9, 3);
    }

    private static void swaps(String members, int many, int first) {
        GooseShares x = Check.with(STAIR + members);
        Check.due("P50 swaps() of " + members, x.swaps(), many);
        Check.due("P51 swap() of " + members, x.swap(), first);
        Check.due("P51 swap() asked first of " + members, Check.with(STAIR + members).swap(), first);
    }

    private static void p51Swap() {
        // Ten times the lesser and the other one.
        String idle = Edge.member(5, 9, 1);
        swaps(Edge.member(0, 2, 1) + idle.repeat(4) + Edge.member(1, 1, 1), 1, 5);
        swaps(idle.repeat(4) + Edge.member(0, 2, 1) + Edge.member(1, 1, 1), 1, 45);
        swaps(idle.repeat(4) + Edge.member(1, 1, 1) + Edge.member(0, 2, 1), 1, 45);
        swaps(idle + Edge.member(0, 2, 1) + idle + Edge.member(0, 2, 1) + Edge.member(1, 1, 1), 2, 14);
        // 0 with 3, 1 with 2: the first by its lesser.
        swaps(Edge.member(0, 4, 1) + Edge.member(0, 2, 1) + Edge.member(1, 1, 1) + Edge.member(3, 1, 1), 3, 3);
    }

    private static void p52Price() {
        // For each goose 2, 3 and 99 at least, one of nothing; wanted 5, 3, 1 and 4.
        GooseShares x = Check.with(STAIR + Edge.member(0, 5, 10) + Edge.member(0, 3, 11) + Edge.member(0, 1, 99) + Edge.member(0, 0, 99)
                + Edge.member(0, 4, 0));
        int[][] due = {{999, 0}, {14, 0}, {13, 0}, {12, 1}, {9, 1}, {8, 3}, {4, 3}, {3, 4}, {1, 4}, {0, 100}};
        for (int[] pair : due) {
            Check.due("P52 price(" + pair[0] + ")", x.price(pair[0]), pair[1]);
        }
        Edge.Make make = () -> Check.with(STAIR + Edge.member(0, 1, 1));
        for (int n : new int[] {-1, 1000, Integer.MIN_VALUE, Integer.MAX_VALUE}) {
            Edge.refused("P52 price(" + n + ")", make, y -> y.price(n), -2);
        }
        Edge.refused("P52 no land", GooseShares::new, y -> y.price(0), -2);
    }

    private static void p52Edges() {
        Check.due("P52 nobody", Check.with(STAIR).price(0), 0);
        Check.due("P52 nobody who wants some", Check.with(STAIR + Edge.member(0, 0, 99)).price(0), 0);
        // Just p for each counts, one less does not.
        Check.due("P52 6 for 2", Check.with(STAIR + Edge.member(0, 2, 6)).price(1), 4);
        Check.due("P52 5 for 2", Check.with(STAIR + Edge.member(0, 2, 5)).price(1), 3);
        Check.due("P52 0 for 1", Check.with(STAIR + Edge.member(0, 1, 0)).price(0), 1);
        Check.due("P52 99 for 1", Check.with(STAIR + Edge.member(0, 1, 99)).price(0), 100);
        Check.due("P52 98 for 1", Check.with(STAIR + Edge.member(0, 1, 98)).price(0), 99);
        Check.due("P52 99 for 99", Check.with(STAIR + Edge.member(0, 99, 99)).price(98), 2);
        Check.due("P52 98 for 99", Check.with(STAIR + Edge.member(0, 99, 98)).price(98), 1);
        Check.due("P52 as many", Check.with(STAIR + Edge.member(0, 99, 99)).price(99), 0);
        GooseShares most = Check.with(STAIR + Edge.member(0, 99, 99).repeat(6));
        Check.due("P52 594", most.price(594), 0);
        Check.due("P52 593", most.price(593), 2);
    }

    private static void has(GooseShares x, int member, int other, int... due) {
        for (int i = 0; i < 4; i++) {
            Check.due("P55 has(" + member + ", " + other + ") by " + i, x.has(member, other, i % 2, i / 2), due[i]);
        }
    }

    private static void rests(String land, int due) {
        Check.due("P54 rests(0, 1) of " + land, Check.with(land).rests(0, 1), due);
        int turned = due & 9 | (due & 2) << 1 | (due & 4) >> 1;
        Check.due("P54 rests(1, 0) of " + land, Check.with(land).rests(1, 0), turned);
    }

    private static void p54Rests() {
        // Neither is ever served: neither lights.
        rests(LANE + Edge.member(0, 99, 99) + Edge.member(2, 99, 99), 1);
        // By a lamp of his own the one at 3 hears twice what comes once: worth 5 or less he need not.
        String once = Edge.head(4, 2, 2, 1, 0) + Edge.flight(0, 1, 1);
        rests(once + Edge.member(3, 3, 4) + Edge.member(4, 0, 0), 1);
        rests(once + Edge.member(3, 3, 5) + Edge.member(4, 0, 0), 3);
        rests(once + Edge.member(3, 3, 6) + Edge.member(4, 0, 0), 2);
        // Lit at both ends only: none, or both if both are paid for it.
        rests(LANE + Edge.member(0, 3, 6) + Edge.member(3, 3, 6), 9);
        rests(LANE + Edge.member(0, 3, 5) + Edge.member(3, 3, 5), 9);
        rests(LANE + Edge.member(0, 3, 5) + Edge.member(3, 3, 4), 1);
        rests(LANE + Edge.member(0, 3, 4) + Edge.member(3, 3, 99), 1);
        // One cell for two: one lights, either of them; at 5 the same to him.
        String two = Edge.head(4, 1, 2, 1, 0) + Edge.flight(0, 1, 1);
        rests(two + Edge.member(3, 3, 6) + Edge.member(3, 3, 6), 6);
        rests(two + Edge.member(3, 3, 5) + Edge.member(3, 3, 5), 7);
        rests(two + Edge.member(3, 3, 4) + Edge.member(3, 3, 4), 1);
        rests(two + Edge.member(3, 3, 6) + Edge.member(3, 3, 4), 2);
        // Other lamps as now: at 2 it is thrown back ahead of 3, so his own is in vain.
        rests(two + Edge.member(3, 3, 99) + Edge.member(0, 0, 0) + Edge.lamps(2), 1);
        // A lamp that burns in a house is put out there by who does not light.
        rests(once + Edge.member(3, 3, 6) + Edge.member(4, 0, 0) + Edge.lamps(3, 4), 2);
    }

    private static void p55Has() {
        // Alone in his house he hears it once, whoever lights.
        String single = Edge.head(2, 1, 0, 0, 0) + Edge.flight(0, 0, 1);
        int[][] pays = {{0, 0, -5}, {3, 3, -2}, {5, 5, 0}, {99, 99, 94}};
        for (int[] due : pays) {
            GooseShares x = Check.with(single + Edge.member(0, 1, due[0]) + Edge.member(1, 1, 50));
            has(x, 0, 1, due[1], due[2], due[1], due[2]);
        }
        GooseShares x = Check.with(single + Edge.member(0, 1, 9) + Edge.member(1, 1, 50));
        // Not served: nothing, or the lamp's cost; turned to the right at 0 he is.
        has(x, 1, 0, 0, -5, 50, 45);
        for (int wrong : new int[] {-1, 2, Integer.MIN_VALUE, Integer.MAX_VALUE}) {
            Edge.Make make = () -> Check.with(single + Edge.member(0, 1, 9) + Edge.member(1, 1, 50));
            Edge.refused("P55 no such choice", make, y -> y.has(0, 1, wrong, 0), -1000);
            Edge.refused("P55 no such choice", make, y -> y.has(0, 1, 1, wrong), -1000);
            Edge.refused("P55 no such member", make, y -> y.has(wrong, 0, 0, 0), -1000);
            Edge.refused("P55 no such member", make, y -> y.has(0, wrong, 0, 0), -1000);
            Edge.refused("P54 no such member", make, y -> y.rests(wrong, 0), -2);
            Edge.refused("P54 no such member", make, y -> y.rests(0, wrong), -2);
        }
        Check.due("P55 one twice", x.has(0, 0, 0, 0), -1000);
        Check.due("P54 one twice", x.rests(1, 1), -2);
        Check.due("P55 no land", new GooseShares().has(0, 1, 0, 0), -1000);
        Check.due("P54 no land", new GooseShares().rests(0, 1), -2);
        Check.due("P55 the lamps stay", x.lamps(), 0);
    }

    private static void p55OneCell() {
        String two = Edge.head(4, 1, 2, 1, 0) + Edge.flight(0, 1, 1) + Edge.member(3, 3, 9) + Edge.member(3, 3, 8);
        has(Check.with(two), 0, 1, 0, 4, 9, 4);
        has(Check.with(two), 1, 0, 0, 3, 8, 3);
        has(Check.with(two + Edge.lamps(3)), 0, 1, 0, 4, 9, 4);
        // Of three the third's lamp is as now.
        String three = Edge.head(4, 1, 2, 1, 0) + Edge.flight(0, 1, 1) + Edge.member(3, 3, 9) + Edge.member(0, 1, 8) + Edge.member(1, 1, 7);
        has(Check.with(three + Edge.lamps(1)), 0, 1, 0, -5, 0, -5);
        has(Check.with(three + Edge.lamps(1)), 0, 2, 0, 4, 0, -5);
    }

    /** To and fro between 0 and 1 by two lamps, in 0 at 21 steps of 41. */
    private static void lastStep() {
        String land = Edge.head(2, 1, 2, 0, 0) + Edge.flight(0, 3, 1);
        GooseShares x = Check.with(land + Edge.member(0, 21, 9) + Edge.member(1, 20, 8));
        has(x, 0, 1, 0, -5, 0, 4);
        has(x, 1, 0, 0, -5, 0, 3);
        Check.due("P54 both at rest, or none", x.rests(0, 1), 9);
        GooseShares y = Check.with(land + Edge.member(0, 22, 9) + Edge.member(1, 21, 8));
        has(y, 0, 1, 0, -5, 0, -5);
        has(y, 1, 0, 0, -5, 0, -5);
    }
}
