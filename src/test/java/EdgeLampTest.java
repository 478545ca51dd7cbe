/** Edges of Term VI and of promises 32 to 40 and 53. */
public final class EdgeLampTest {
    /** Unlit it goes 0 1 2; by a lamp at 0 down by 3 6, at 1 by 4 7, at 2 by 5 8. */
    private static final String LAND = Edge.head(3, 3, 0, 0, 5) + Edge.flight(0, 1, 2);
    /** From 0 to the left, so it is out at once but for lamps; by both it is in 0 at each even step, 21 times. */
    private static final String TO_AND_FRO = Edge.head(2, 1, 2, 0, 0) + Edge.flight(0, 3, 1);

    public static void main(String[] args) {
        p32Fewest();
        p32Sets();
        p33Lights();
        p34Best();
        p35Bests();
        p36Most();
        lastStep();
        p37More();
        p38Less();
        p39By();
        p40Law();
        p53Cut();
        p53CutOfMany();
        Check.finish();
    }

    private static void p32Fewest() {
        // Back in 0 by lamps at 1, 4 and 3: three are the most. Heading up it would need one in 0 besides.
        String box = Edge.head(3, 2, 0, 0, 0);
        Check.due("P32 none needed", Check.with(box + Edge.flight(0, 1, 1) + Edge.member(0, 1, 1)).fewest(1), 0);
        Check.due("P32 one", Check.with(box + Edge.flight(0, 1, 1) + Edge.member(3, 1, 1)).fewest(1), 1);
        Check.due("P32 two", Check.with(box + Edge.flight(0, 1, 1) + Edge.member(3, 1, 1) + Edge.member(1, 1, 1)).fewest(3), 2);
        Check.due("P32 three", Check.with(box + Edge.flight(0, 1, 1) + Edge.member(0, 2, 1)).fewest(1), 3);
        Check.due("P32 four are too many", Check.with(box + Edge.flight(0, 0, 1) + Edge.member(0, 2, 1)).fewest(1), -1);
        Check.due("P33 four are too many", Check.with(box + Edge.flight(0, 0, 1) + Edge.member(0, 2, 1)).lights(1), -1);
        // Lit as they are they play no part: by four lamps he is served now.
        GooseShares lit = Check.with(box + Edge.flight(0, 0, 1) + Edge.member(0, 2, 1) + Edge.lamps(0, 1, 3, 4));
        Check.due("P21 served by four", lit.served(), 1);
        Check.due("P32 by three at most", lit.fewest(1), -1);
        Check.due("P34 by three at most", lit.best(3), 0);
    }

    private static void p32Sets() {
        // By 1, 4 and 3 it comes to 0 twice, with four geese: 2 are had unlit, 4 by three lamps, 5 never.
        GooseShares x = Check.with(LAND + Edge.member(0, 2, 1) + Edge.member(0, 0, 1) + Edge.member(0, 4, 1));
        int[] fewest = {0, 0, -1, -1, 3, 3, -1, -1};
        int[] lights = {0, 0, -1, -1, 26, 26, -1, -1};
        for (int set = 0; set < 8; set++) {
            Check.due("P32 fewest(" + set + ")", x.fewest(set), fewest[set]);
            Check.due("P33 lights(" + set + ")", x.lights(set), lights[set]);
        }
        Check.due("P32 one goose too many", Check.with(LAND + Edge.member(0, 5, 1)).fewest(1), -1);
        for (int set : new int[] {-1, 8, 9, 63, 64, Integer.MIN_VALUE, Integer.MAX_VALUE}) {
            Check.due("P32 no such set " + set, x.fewest(set), -2);
            Check.due("P33 no such set " + set, x.lights(set), -2);
        }
        GooseShares none = Check.with(LAND);
        Check.due("P32 the empty set", none.fewest(0), 0);
        Check.due("P33 the empty set", none.lights(0), 0);
        Check.due("P32 nobody is there", none.fewest(1), -2);
        Check.due("P33 nobody is there", none.lights(1), -2);
        GooseShares six = Check.with(LAND + Edge.member(3, 2, 1).repeat(6));
        Check.due("P32 all six", six.fewest(63), 1);
        Check.due("P33 all six", six.lights(63), 1);
        Check.due("P32 a seventh", six.fewest(64), -2);
        Check.due("P33 a seventh", six.lights(127), -2);
    }

    private static void p33Lights() {
        // From 2 to the left, always turning left: by 2 down to 5, by 0 down to 3, by 0 and 3 on to 4 5.
        GooseShares x = Check.with(Edge.head(3, 2, 1, 0, 0) + Edge.flight(2, 3, 1) + Edge.member(5, 1, 1) + Edge.member(3, 1, 1));
        Check.due("P33 the one", x.lights(1), 4);
        Check.due("P33 the other", x.lights(2), 1);
        Check.due("P33 both", x.lights(3), 1 + 8);
        // Heard from 1 as well, 0 and 1 and 2 and many more sets will do: the least.
        GooseShares y = Check.with(Edge.head(3, 2, 1, 1, 0) + Edge.flight(2, 3, 1) + Edge.member(4, 2, 1));
        Check.due("P33 the least of several", y.lights(1), 1);
    }

    private static void p34Best() {
        GooseShares x = Check.with(LAND + Edge.member(6, 2, 9) + Edge.lamps(0));
        Check.due("P22 by the lamp", x.income(), 9);
        Check.due("P34 none in place of it", x.best(0), 0);
        Check.due("P35 none in place of it", x.bests(0), 0);
        Check.due("P36 none in place of it", x.most(0), 0);
        Check.due("P34 one", x.best(1), 9);
        Check.due("P34 no such n", x.best(4), -2);
        Check.due("P34 no such n", x.best(-1), -2);
        // Three lamps bring it back to 0, which pays more than what two can.
        GooseShares y = Check.with(Edge.head(3, 2, 0, 0, 0) + Edge.flight(0, 1, 1) + Edge.member(0, 2, 50) + Edge.member(3, 1, 7)
                + Edge.member(0, 1, 1));
        int[] best = {1, 8, 8, 58};
        int[] bests = {0, 1, 1, 2 + 8 + 16};
        int[] most = {1, 2, 2, 3};
        for (int n = 0; n < 4; n++) {
            Check.due("P34 best(" + n + ")", y.best(n), best[n]);
            Check.due("P35 bests(" + n + ")", y.bests(n), bests[n]);
            Check.due("P36 most(" + n + ")", y.most(n), most[n]);
        }
        GooseShares all = Check.with(LAND + Edge.member(0, 2, 99).repeat(6));
        Check.due("P34 the most", all.best(0), 594);
        Check.due("P36 the most", all.most(0), 6);
    }

    private static void p35Bests() {
        // By 0, 1 or 2 one of them, by 2 and 5 all.
        GooseShares one = Check.with(LAND + Edge.member(3, 2, 5) + Edge.member(4, 2, 5) + Edge.member(5, 2, 5));
        Check.due("P34 one alone", one.best(1), 5);
        Check.due("P35 the least of three", one.bests(1), 1);
        Check.due("P34 all three", one.best(3), 15);
        Check.due("P35 by two, not by three", one.bests(3), 4 + 32);
        // None is needed: none is lit, though many more would do as well.
        GooseShares none = Check.with(LAND + Edge.member(0, 2, 5));
        Check.due("P35 none needed", none.bests(3), 0);
        Check.due("P35 nothing to be had", Check.with(LAND + Edge.member(0, 99, 5)).bests(3), 0);
        // The only lamp that helps is in the last cell: greater than many sets of two, yet fewer.
        GooseShares last = Check.with(Edge.head(5, 1, 2, 0, 0) + Edge.flight(4, 1, 1) + Edge.member(0, 1, 3));
        Check.due("P35 fewest ahead of least", last.bests(3), 16);
        Check.due("P33 fewest ahead of least", last.lights(1), 16);
    }

    private static void p36Most() {
        // Two who pay nothing are more than one who pays much.
        GooseShares x = Check.with(LAND + Edge.member(3, 2, 0) + Edge.member(6, 2, 0) + Edge.member(4, 2, 9));
        Check.due("P36 two of nothing", x.most(1), 2);
        Check.due("P35 the one who pays", x.bests(1), 2);
        Check.due("P36 nobody", Check.with(LAND).most(3), 0);
        Check.due("P36 who wants nothing is not served", Check.with(LAND + Edge.member(0, 0, 9)).most(3), 0);
    }

    private static void lastStep() {
        GooseShares x = Check.with(TO_AND_FRO + Edge.member(0, 21, 9));
        Check.due("P32 step 40 counts", x.fewest(1), 2);
        Check.due("P33 step 40 counts", x.lights(1), 3);
        Check.due("P34 step 40 counts", x.best(2), 9);
        Check.due("P34 one is not enough", x.best(1), 0);
        Check.due("P36 step 40 counts", x.most(2), 1);
        Check.due("P53 step 40 counts", x.cut(0, 0), 2);
        GooseShares y = Check.with(TO_AND_FRO + Edge.member(0, 22, 9));
        Check.due("P32 none behind", y.fewest(1), -1);
        Check.due("P34 none behind", y.best(3), 0);
        Check.due("P36 none behind", y.most(3), 0);
        Check.due("P53 none behind", y.cut(0, 0), -1);
    }

    private static void p37More() {
        Check.due("P37 the greatest", Check.with(LAND + Edge.member(3, 2, 4) + Edge.member(4, 2, 9) + Edge.member(5, 2, 8)).more(), 1);
        Check.due("P37 the first of two", Check.with(LAND + Edge.member(3, 2, 4) + Edge.member(4, 2, 9) + Edge.member(5, 2, 9)).more(), 1);
        Check.due("P37 as much is not more", Check.with(LAND + Edge.member(2, 2, 4) + Edge.member(3, 2, 4)).more(), -1);
        Check.due("P37 more by one", Check.with(LAND + Edge.member(2, 2, 4) + Edge.member(3, 2, 5)).more(), 0);
        Check.due("P37 none", Check.with(LAND + Edge.member(2, 2, 4)).more(), -1);
        Check.due("P37 nobody", Check.with(LAND).more(), -1);
        // Besides those lit, in the last cell: thrown back from 4 to 0.
        GooseShares last = Check.with(Edge.head(5, 1, 2, 0, 0) + Edge.flight(2, 1, 1) + Edge.member(0, 1, 3));
        Check.due("P37 of 2, 3 and 4 the first", last.more(), 2);
        Check.due("P37 the last alone", Check.with(Edge.head(5, 1, 2, 0, 0) + Edge.flight(4, 1, 1) + Edge.member(0, 1, 3)).more(), 4);
        // All are lit already, by which he is not served; unlit he would be.
        GooseShares all = Check.with(LAND + Edge.member(2, 2, 4) + Edge.lamps(0, 1, 2, 3, 4, 5, 6, 7, 8));
        Check.due("P37 all are lit", all.more(), -1);
        Check.due("P37 it changes nothing", all.lamps(), 511);
        // To put one out is no more.
        Check.due("P37 not by putting out", Check.with(LAND + Edge.member(2, 2, 4) + Edge.lamps(0)).more(), -1);
    }

    private static void p38Less() {
        Check.due("P38 none lit", Check.with(LAND + Edge.member(6, 2, 4)).less(), -1);
        Check.due("P38 the one", Check.with(LAND + Edge.member(2, 2, 4) + Edge.lamps(0)).less(), 0);
        Check.due("P38 the last cell's", Check.with(Edge.head(3, 1, 2, 0, 0) + Edge.flight(2, 3, 1) + Edge.member(0, 1, 4)
                + Edge.lamps(2)).less(), 2);
        Check.due("P38 two bar the way", Check.with(LAND + Edge.member(2, 2, 4) + Edge.lamps(0, 1)).less(), -1);
        Check.due("P38 as much is not more", Check.with(LAND + Edge.member(3, 2, 4) + Edge.member(2, 2, 4) + Edge.lamps(0)).less(), -1);
        Check.due("P38 more by one", Check.with(LAND + Edge.member(3, 2, 4) + Edge.member(2, 2, 5) + Edge.lamps(0)).less(), 0);
        Check.due("P38 out of the way", Check.with(LAND + Edge.member(2, 2, 4) + Edge.lamps(8)).less(), -1);
        String two = LAND + Edge.flight(6, 1, 2) + Edge.lamps(1, 7);
        Check.due("P38 the first of two", Check.with(two + Edge.member(2, 2, 4) + Edge.member(8, 2, 4)).less(), 1);
        Check.due("P38 the greatest", Check.with(two + Edge.member(2, 2, 4) + Edge.member(8, 2, 5)).less(), 7);
    }

    private static void p39By() {
        // Right at 3 (step 0), then left at 6 (step 1) to 7 8: by law 3 alone.
        GooseShares x = Check.with(Edge.head(3, 3, 1, 0, 0) + Edge.flight(3, 1, 1) + Edge.member(8, 1, 6) + Edge.lamps(3, 6));
        int[] by = {0, 0, 0, 6};
        for (int law = 0; law < 4; law++) {
            Check.due("P39 by(" + law + ")", x.by(law), by[law]);
        }
        Check.due("P39 no such law", x.by(4), -2);
        Check.due("P39 no such law", x.by(-1), -2);
        Check.due("P40 the last", x.law(), 3);
        Check.due("P39 the law stays", x.count(2), 1);
        Check.due("P22 by the one told", x.income(), 0);
        GooseShares nobody = Check.with(Edge.head(1, 1, 3, 0, 0));
        for (int law = 0; law < 4; law++) {
            Check.due("P39 nobody", nobody.by(law), 0);
        }
    }

    private static void p40Law() {
        Check.due("P40 all alike", Check.with(Edge.head(1, 1, 3, 0, 0)).law(), 0);
        // By a lamp at 4 met at step 1: right is down, left is up, back is left; law 3 is left.
        String middle = Edge.head(3, 3, 0, 0, 0) + Edge.flight(3, 1, 1) + Edge.lamps(4);
        Check.due("P40 right", Check.with(middle + Edge.member(7, 1, 6)).law(), 0);
        Check.due("P40 left, the least of two", Check.with(middle + Edge.member(1, 1, 6)).law(), 1);
        Check.due("P40 back", Check.with(middle + Edge.member(3, 2, 6)).law(), 2);
        Check.due("P40 the greatest", Check.with(middle + Edge.member(7, 1, 5) + Edge.member(1, 1, 5) + Edge.member(3, 2, 6)).law(), 2);
        Check.due("P40 greater by one", Check.with(middle + Edge.member(7, 1, 5) + Edge.member(1, 1, 6)).law(), 1);
        Check.due("P40 as great, the least", Check.with(middle + Edge.member(7, 1, 6) + Edge.member(1, 1, 6)).law(), 0);
    }

    private static void cutIs(String text, int... due) {
        GooseShares x = Check.with(text);
        for (int member = 0; member < due.length / 2; member++) {
            Check.due("P53 cut(" + member + ", 0) of " + text, x.cut(member, 0), due[2 * member]);
            Check.due("P53 cut(" + member + ", 1) of " + text, x.cut(member, 1), due[2 * member + 1]);
        }
    }

    private static void p53Cut() {
        cutIs(LAND + Edge.member(0, 0, 1), 0, 1);
        cutIs(LAND + Edge.member(0, 2, 1), 0, 1);
        cutIs(LAND + Edge.member(3, 2, 1), 1, 1);
        cutIs(LAND + Edge.member(3, 2, 1) + Edge.lamps(0, 1, 2), 1, 1);
        cutIs(Edge.head(3, 2, 0, 0, 0) + Edge.flight(0, 1, 1) + Edge.member(0, 2, 1), 3, 1);
        // Four are too many, or he wants more than there is: all can not be served.
        cutIs(Edge.head(3, 2, 0, 0, 0) + Edge.flight(0, 0, 1) + Edge.member(0, 2, 1), -1, -1);
        cutIs(LAND + Edge.member(0, 2, 1) + Edge.member(0, 99, 1) + Edge.member(0, 0, 1), -1, -1, -1, -1, -1, -1);
        // Any two of 6, 8 and 4 can be served, not all three.
        cutIs(LAND + Edge.member(6, 2, 1) + Edge.member(8, 2, 1) + Edge.member(4, 2, 1), -1, -1, -1, -1, -1, -1);
        GooseShares x = Check.with(LAND + Edge.member(0, 99, 1));
        Check.due("P53 no such member ahead of none", x.cut(1, 0), -2);
        Check.due("P53 no such what ahead of none", x.cut(0, 2), -2);
        Check.due("P53 no such what ahead of none", x.cut(0, -1), -2);
    }

    private static void p53CutOfMany() {
        // Six alike share one lamp; one of seven lines who wants nothing bears nothing.
        cutIs(LAND + Edge.member(3, 2, 1).repeat(6), 1, 6, 1, 6, 1, 6, 1, 6, 1, 6, 1, 6);
        cutIs(LAND + Edge.member(3, 2, 1).repeat(3) + Edge.member(3, 0, 1) + Edge.member(6, 2, 1).repeat(2),
                1, 5, 1, 5, 1, 5, 0, 1, 1, 5, 1, 5);
        // One who is served unlit, and by the other's lamp still: he costs nothing in any order.
        cutIs(LAND + Edge.member(0, 2, 1) + Edge.member(6, 2, 1), 0, 1, 1, 1);
        // 2 unlit, 3 by a lamp at 0, which takes 2 away; both by 2 and 5: alone 0 and 1, together 2.
        cutIs(LAND + Edge.member(2, 2, 1) + Edge.member(3, 2, 1), 1, 2, 3, 2);
        // 3, 4 and 5 each by a lamp of his own, any two and all three by 2 and 5.
        cutIs(LAND + Edge.member(3, 2, 1) + Edge.member(5, 2, 1) + Edge.member(4, 2, 1), 2, 3, 2, 3, 2, 3);
    }
}
