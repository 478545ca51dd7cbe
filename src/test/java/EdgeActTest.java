/** Edges of promises 59 to 62 and 65 to 68. */
public final class EdgeActTest {
    private static final String LAND = Edge.head(3, 3, 0, 0, 5) + Edge.flight(0, 1, 2) + Edge.flight(8, 3, 1) + Edge.member(6, 2, 9)
            + Edge.member(2, 2, 4) + Edge.lamps(5);

    public static void main(String[] args) {
        p59Light();
        p60Turn();
        fortyActs();
        fullOfActs();
        p61Undo();
        p62Anew();
        p65Rate();
        p65RateRefused();
        p66Count();
        p67Image();
        p68Back();
        p68NoLand();
        imagesAreApart();
        imagesHaveTheirActs();
        Check.finish();
    }

    private static GooseShares made() {
        return Check.with(LAND);
    }

    /** Forty acts: lamps of all cells, and both flights, over and over. */
    private static GooseShares full() {
        GooseShares x = made();
        for (int i = 0; i < 40; i++) {
            int answer = i % 4 == 3 ? x.turn(i % 2, i / 4 % 4) : x.light(i % 9, i % 2);
            Check.due("act " + i + " is done", answer >= 0 ? 0 : 1, 0);
        }
        Check.due("forty acts", x.count(8), 40);
        return x;
    }

    private static void p59Light() {
        GooseShares x = made();
        Check.due("P59 the first cell", x.light(0, 1), 0);
        Check.due("P59 the last cell", x.light(8, 1), 0);
        Check.due("P59 lit again", x.light(8, 1), 1);
        Check.due("P8 lamps()", x.lamps(), 1 + 32 + 256);
        Check.due("P59 put out", x.light(8, 0), 1);
        Check.due("P59 put out again", x.light(8, 0), 0);
        Check.due("P59 one from the text", x.light(5, 0), 1);
        Check.due("P8 lamps()", x.lamps(), 1);
        Check.due("P66 six acts", x.count(8), 6);
        int[][] wrong = {{-1, 1}, {9, 1}, {20, 0}, {0, -1}, {0, 2}, {9, 2}, {Integer.MIN_VALUE, 0}, {Integer.MAX_VALUE, 1},
            {0, Integer.MIN_VALUE}, {0, Integer.MAX_VALUE}};
        for (int[] pair : wrong) {
            Edge.refused("P59 light(" + pair[0] + ", " + pair[1] + ")", EdgeActTest::made, y -> y.light(pair[0], pair[1]), -2);
            Edge.refused("P59 ahead of -5", EdgeActTest::full, y -> y.light(pair[0], pair[1]), -2);
        }
        Edge.refused("P59 no land", GooseShares::new, y -> y.light(0, 1), -2);
    }

    private static void p60Turn() {
        GooseShares x = made();
        Check.due("P60 to 0", x.turn(0, 0), 1);
        Check.due("P60 to 3", x.turn(0, 3), 0);
        Check.due("P60 to the same", x.turn(0, 3), 3);
        Check.due("P60 the last flight", x.turn(1, 2), 3);
        Check.due("P6 heads", x.flight(0, 1), 3);
        Check.due("P6 heads", x.flight(1, 1), 2);
        Check.due("P11 out at once", x.out(0), 1);
        Check.due("P66 four acts", x.count(8), 4);
        int[][] wrong = {{-1, 1}, {2, 1}, {4, 0}, {0, -1}, {0, 4}, {2, 4}, {Integer.MIN_VALUE, 0}, {Integer.MAX_VALUE, 1},
            {0, Integer.MIN_VALUE}, {0, Integer.MAX_VALUE}};
        for (int[] pair : wrong) {
            Edge.refused("P60 turn(" + pair[0] + ", " + pair[1] + ")", EdgeActTest::made, y -> y.turn(pair[0], pair[1]), -2);
            Edge.refused("P60 ahead of -5", EdgeActTest::full, y -> y.turn(pair[0], pair[1]), -2);
        }
        Edge.refused("P60 no land", GooseShares::new, y -> y.turn(0, 1), -2);
    }

    private static void fortyActs() {
        GooseShares x = made();
        for (int i = 1; i <= 39; i++) {
            x.light(i % 9, 1);
        }
        Check.due("P66 39 acts", x.count(8), 39);
        Check.due("P60 the fortieth", x.turn(0, 2), 1);
        Check.due("P66 40 acts", x.count(8), 40);
        Check.due("P6 it is done", x.flight(0, 1), 2);
        Check.due("P60 one more", x.turn(0, 1), -5);
        Check.due("P59 one more", x.light(0, 0), -5);
        Check.due("P59 one that would change nothing", x.light(0, 1), -5);
        Check.due("P66 40 still", x.count(8), 40);
        Check.due("P61 one is taken back", x.undo(), 39);
        Check.due("P59 there is room again", x.light(0, 0), 1);
        Check.due("P59 one more", x.light(0, 1), -5);
        Check.due("P61 one is taken back", x.undo(), 39);
        Check.due("P8 it is lit again", x.lamps(), 511);
    }

    private static void fullOfActs() {
        for (int cell = 0; cell < 9; cell++) {
            int here = cell;
            Edge.refused("P59 light on of forty", EdgeActTest::full, x -> x.light(here, 1), -5);
            Edge.refused("P59 light off of forty", EdgeActTest::full, x -> x.light(here, 0), -5);
        }
        for (int heads = 0; heads < 4; heads++) {
            int there = heads;
            Edge.refused("P60 turn of forty", EdgeActTest::full, x -> x.turn(0, there), -5);
            Edge.refused("P60 turn of forty", EdgeActTest::full, x -> x.turn(1, there), -5);
        }
        // Taken back one by one it is as it was one by one.
        GooseShares x = full();
        for (int left = 39; left >= 0; left--) {
            Check.due("P61 undo", x.undo(), left);
            GooseShares y = made();
            for (int i = 0; i < left; i++) {
                int answer = i % 4 == 3 ? y.turn(i % 2, i / 4 % 4) : y.light(i % 9, i % 2);
                Check.due("act " + i, answer >= 0 ? 0 : 1, 0);
            }
            Check.due("P61 lamps behind " + left, x.lamps(), y.lamps());
            Check.due("P61 the first behind " + left, x.flight(0, 1), y.flight(0, 1));
            Check.due("P61 the second behind " + left, x.flight(1, 1), y.flight(1, 1));
        }
        Check.due("P61 none is left", x.undo(), -5);
    }

    private static void p61Undo() {
        Edge.refused("P61 there is none", EdgeActTest::made, GooseShares::undo, -5);
        Edge.refused("P61 no land", GooseShares::new, GooseShares::undo, -2);
        GooseShares x = made();
        x.light(0, 1);
        Check.due("P61 the only one", x.undo(), 0);
        Check.due("P61 there is none", x.undo(), -5);
        Check.due("P8 lamps()", x.lamps(), 32);
        // A lamp lit twice and put out once: each goes back by one.
        x.light(5, 1);
        x.light(5, 0);
        x.light(5, 0);
        Check.due("P61 of three", x.undo(), 2);
        Check.due("P8 out still", x.lamps(), 0);
        Check.due("P61 of two", x.undo(), 1);
        Check.due("P8 lit again", x.lamps(), 32);
        Check.due("P61 of one", x.undo(), 0);
        Check.due("P8 lit still", x.lamps(), 32);
        x.light(0, 1);
        Check.land(x, LAND);
        Check.due("P61 of a land anew", x.undo(), -5);
    }

    private static void p62Anew() {
        Edge.refused("P62 of none", EdgeActTest::made, GooseShares::anew, 0);
        Edge.refused("P62 no land", GooseShares::new, GooseShares::anew, -2);
        GooseShares x = full();
        Check.due("P62 of forty", x.anew(), 40);
        Edge.stays("P62 of forty", Edge.looks(x), Edge.looks(made()));
        GooseShares y = made();
        y.turn(1, 0);
        Check.due("P62 of one", y.anew(), 1);
        Check.due("P66 no acts", y.count(8), 0);
        Check.due("P6 heads", y.flight(1, 1), 3);
        Check.due("P62 again", y.anew(), 0);
        Check.due("P59 there is room", y.light(0, 1), 0);
    }

    private static void p65Rate() {
        GooseShares x = made();
        Check.due("P65 to 0", x.rate(0, 0), 9);
        Check.due("P65 to 99", x.rate(0, 99), 0);
        Check.due("P65 the last member", x.rate(1, 50), 4);
        Check.due("P65 to the same", x.rate(1, 50), 50);
        Check.due("P7 pays", x.member(0, 2), 99);
        Check.due("P7 pays", x.member(1, 2), 50);
        Check.due("P7 wants as ever", x.member(1, 1), 2);
        Check.due("P22 income()", x.income(), 50);
        Check.due("P66 it is no act", x.count(8), 0);
        Check.due("P61 so it is not taken back", x.undo(), -5);
        Check.due("P62 nor here", x.anew(), 0);
        Check.due("P7 pays still", x.member(1, 2), 50);
        Check.due("P52 price(2)", x.price(2), 26);
        Check.due("P34 best(0)", x.best(0), 50);
        Check.due("P48 homes()", x.homes(), 99);
        Check.due("P57 mean", x.mean(0), 25);
        Check.due("P55 has", x.has(1, 0, 0, 0), 50);
    }

    private static void p65RateRefused() {
        int[][] wrong = {{-1, 1}, {2, 1}, {6, 0}, {0, -1}, {0, 100}, {2, 100}, {Integer.MIN_VALUE, 0}, {Integer.MAX_VALUE, 1},
            {0, Integer.MIN_VALUE}, {0, Integer.MAX_VALUE}};
        for (int[] pair : wrong) {
            Edge.refused("P65 rate(" + pair[0] + ", " + pair[1] + ")", EdgeActTest::made, y -> y.rate(pair[0], pair[1]), -2);
            Edge.refused("P65 ahead of -5", EdgeActTest::full, y -> y.rate(pair[0], pair[1]), -2);
        }
        Edge.refused("P65 no land", GooseShares::new, y -> y.rate(0, 1), -2);
        Edge.refused("P65 forty acts", EdgeActTest::full, y -> y.rate(0, 1), -5);
        Edge.refused("P65 one act", () -> {
            GooseShares y = made();
            y.light(0, 1);
            return y;
        }, y -> y.rate(1, 99), -5);
        Edge.refused("P65 one turn, to what it was", () -> {
            GooseShares y = made();
            y.turn(0, 1);
            return y;
        }, y -> y.rate(1, 4), -5);
        GooseShares x = made();
        x.light(0, 1);
        Check.due("P65 behind an act", x.rate(0, 1), -5);
        x.undo();
        Check.due("P65 none is left", x.rate(0, 1), 9);
        x.turn(0, 1);
        x.anew();
        Check.due("P65 none is left", x.rate(0, 2), 1);
        x.light(0, 1);
        Check.land(x, LAND);
        Check.due("P65 a land anew", x.rate(0, 2), 9);
    }

    private static void p66Count() {
        GooseShares x = Check.with(Edge.head(4, 3, 2, 7, 9) + Edge.flight(0, 1, 2).repeat(3) + Edge.member(6, 2, 9).repeat(5)
                + Edge.lamps(5, 5));
        x.light(1, 1);
        x.light(2, 1);
        Check.tape(x, "land wide");
        x.row(3, 0, 0);
        x.row(0, 3, 60);
        x.row(0, 3, 60);
        int[] counts = {4, 3, 2, 7, 9, 12, 3, 5, 2, 11, 9, 2};
        for (int what = 0; what < counts.length; what++) {
            Check.due("P66 count(" + what + ")", x.count(what), counts[what]);
        }
        for (int what : new int[] {-1, 12, 13, Integer.MIN_VALUE, Integer.MAX_VALUE}) {
            Check.due("P66 count(" + what + ")", x.count(what), -1);
            Check.due("P66 without a land count(" + what + ")", new GooseShares().count(what), -1);
        }
        // The greatest of each.
        GooseShares y = Check.with(Edge.head(5, 4, 3, 8, 10) + Edge.flight(0, 1, 2).repeat(4) + Edge.member(6, 2, 9).repeat(6)
                + Edge.lamps(5).repeat(40));
        for (int i = 0; i < 40; i++) {
            y.light(0, 1);
        }
        for (int i = 0; i < 40; i++) {
            y.feed(0, 0, 0, 0, 0);
        }
        for (int i = 0; i < 4; i++) {
            y.row(i, 0, 0);
        }
        int[] greatest = {5, 4, 3, 8, 10, 20, 4, 6, 40, 51, 800, 4};
        for (int what = 0; what < greatest.length; what++) {
            Check.due("P66 the greatest count(" + what + ")", y.count(what), greatest[what]);
        }
    }

    private static void p67Image() {
        for (int k : new int[] {-1, 3, Integer.MIN_VALUE, Integer.MAX_VALUE}) {
            Edge.refused("P67 image(" + k + ")", Edge::rich, x -> x.image(k), -2);
            Edge.refused("P68 back(" + k + ")", Edge::rich, x -> x.back(k), -2);
            Edge.refused("P68 back(" + k + ") ahead of nothing", GooseShares::new, x -> x.back(k), -2);
        }
        for (int k = 0; k < 3; k++) {
            int here = k;
            Edge.refused("P68 nothing", GooseShares::new, x -> x.back(here), -6);
            Edge.refused("P68 nothing", EdgeActTest::made, x -> x.back(here), -6);
            // All there is goes into it and comes back: forty acts, what is paid, how they head.
            GooseShares x = full();
            Check.due("P67 image(" + k + ")", x.image(k), 0);
            Check.due("P66 it stays as it is", x.count(8), 40);
            Check.land(x, Edge.head(5, 4, 1, 1, 1));
            Check.due("P68 back(" + k + ")", x.back(k), 0);
            GooseShares y = full();
            y.image(k);
            Edge.stays("P68 back(" + k + ")", Edge.looks(x), Edge.looks(y));
            Check.due("P68 the next has nothing", made().back((k + 1) % 3), -6);
        }
    }

    private static void p68Back() {
        GooseShares x = Edge.rich();
        Check.due("P68 back(0)", x.back(0), 0);
        Check.due("P66 its acts", x.count(8), 2);
        Check.due("P8 its lamps", x.lamps(), 2 + 8);
        Check.due("P6 its flights", x.flight(1, 1), 0);
        // The tape, what land() found and the slots are as they were.
        Check.due("P66 the tape", x.count(10), 48);
        Check.due("P5 the fault", x.fault(0), 2);
        Check.due("P66 the slots", x.count(11), 3);
        Check.due("P61 an act of the image", x.undo(), 1);
        Check.due("P6 is taken back", x.flight(1, 1), 3);
        Check.due("P68 back(2)", x.back(2), 0);
        Check.due("P66 no acts", x.count(8), 0);
        Check.due("P65 so rates can be told", x.rate(0, 99), 7);
        Check.due("P68 back(2) again", x.back(2), 0);
        Check.due("P7 the image has the old one", x.member(0, 2), 7);
        Check.due("P68 back(1)", x.back(1), -6);
        Check.due("P68 back(0) once more", x.back(0), 0);
        Check.due("P66 its acts still", x.count(8), 2);
        Check.due("P4 the tape is a land still", x.land(), 2);
    }

    private static void p68NoLand() {
        GooseShares x = new GooseShares();
        Check.due("P67 without a land", x.image(0), 0);
        Check.land(x, LAND);
        x.light(0, 1);
        Check.due("P68 to none", x.back(0), 0);
        Check.due("P8 there is none", x.lamps(), -2);
        Check.due("P66 no acts", x.count(8), 0);
        Check.due("P66 no lines", x.count(9), 0);
        Check.due("P61 no land", x.undo(), -2);
        // And an image of a land, gone back to from none.
        GooseShares y = made();
        y.light(0, 1);
        y.image(1);
        y.end(0);
        Check.due("P4 none", y.land(), 0);
        Check.due("P68 back from none", y.back(1), 0);
        Check.due("P8 lamps()", y.lamps(), 33);
        Check.due("P61 undo", y.undo(), 0);
        Check.due("P8 lamps()", y.lamps(), 32);
    }

    private static void imagesAreApart() {
        GooseShares x = made();
        x.image(0);
        x.light(0, 1);
        x.image(1);
        x.turn(0, 0);
        x.image(2);
        // In place of an earlier one.
        x.light(1, 1);
        x.image(1);
        int[] lamps = {32, 35, 33};
        int[] acts = {0, 3, 2};
        int[] heads = {1, 0, 0};
        for (int round = 0; round < 2; round++) {
            for (int k = 0; k < 3; k++) {
                Check.due("P68 back(" + k + ")", x.back(k), 0);
                Check.due("P8 lamps of " + k, x.lamps(), lamps[k]);
                Check.due("P66 acts of " + k, x.count(8), acts[k]);
                Check.due("P6 heads of " + k, x.flight(0, 1), heads[k]);
                // What is done now is done to none of them.
                x.light(7, 1);
                x.turn(1, 1);
                x.undo();
                x.anew();
            }
        }
    }

    /** The acts that an image has are taken back as they were done, whatever was done in their place meanwhile. */
    private static void imagesHaveTheirActs() {
        GooseShares x = made();
        x.light(5, 0);
        x.turn(1, 2);
        x.light(0, 1);
        x.image(0);
        x.anew();
        x.turn(0, 3);
        x.light(7, 1);
        x.turn(0, 2);
        x.image(1);
        Check.due("P68 back(0)", x.back(0), 0);
        Check.due("P61 undo", x.undo(), 2);
        Check.due("P8 lamps()", x.lamps(), 0);
        Check.due("P61 undo", x.undo(), 1);
        Check.due("P6 heads", x.flight(1, 1), 3);
        Check.due("P6 heads", x.flight(0, 1), 1);
        Check.due("P61 undo", x.undo(), 0);
        Check.due("P8 lamps()", x.lamps(), 32);
        Check.due("P68 back(1)", x.back(1), 0);
        Check.due("P61 undo", x.undo(), 2);
        Check.due("P6 heads", x.flight(0, 1), 3);
        Check.due("P61 undo", x.undo(), 1);
        Check.due("P8 lamps()", x.lamps(), 32);
        Check.due("P62 anew", x.anew(), 1);
        Check.due("P6 heads", x.flight(0, 1), 1);
        Check.due("P6 heads", x.flight(1, 1), 3);
    }
}
