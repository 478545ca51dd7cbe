/** Edges of Terms II and III, and of promises 9 to 31. */
public final class EdgeSkyTest {
    /** By lamps at these cells, always to the right, from 14 to the left: at step 41 it would come to 15, at 42 be out. */
    private static final int[] LAMPS = {0, 1, 2, 3, 4, 5, 9, 10, 12, 16, 18, 19};
    private static final int[] WAY = {14, 13, 12, 7, 2, 3, 8, 13, 18, 17, 16, 11, 6, 1, 2, 7, 12, 11, 10, 5, 6, 7, 8, 9, 14, 19, 18, 13,
        8, 3, 4, 9, 8, 7, 6, 5, 0, 1, 6, 11, 16, 15};
    private static final String LONG_LAND = Edge.head(5, 4, 0, 0, 0) + Edge.lamps(LAMPS);
    /** The second begins one step further on that way, so it is in 15 at step 40; the third at 39, and is out at 40. */
    private static final String THREE = LONG_LAND + Edge.flight(14, 3, 1) + Edge.flight(13, 3, 2) + Edge.flight(12, 3, 4)
            + Edge.member(15, 0, 1) + Edge.member(15, 6, 2) + Edge.member(15, 7, 4);
    private static final int ALL = (1 << 20) - 1;

    public static void main(String[] args) {
        turning();
        fourSides();
        distances();
        earsOfLandBehindLand();
        p9AtP10Heads();
        p11OutToP13Way();
        p14OverToP18Ears();
        lastStepAlone();
        p19LoudP20Quiet();
        p21Served();
        p22IncomeP29Spare();
        p23Unpaid();
        p24First();
        p25Lacks();
        p26NearP27Lone();
        p28Meets();
        p30Calls();
        p31Farthest();
        fullest();
        Check.finish();
    }

    /** At an even step and at an odd one, from each heading, by each law. */
    private static void turning() {
        int[][] turned = {{1, 2, 3, 0}, {3, 0, 1, 2}, {2, 3, 0, 1}};
        int[] next = {7, 13, 17, 11};
        int[] steps = {-5, 1, 5, -1};
        for (int law = 0; law < 4; law++) {
            for (int head = 0; head < 4; head++) {
                int even = turned[law == 3 ? 0 : law][head];
                int odd = turned[law == 3 ? 1 : law][head];
                GooseShares x = Check.with(Edge.head(5, 4, law, 0, 0) + Edge.flight(12, head, 1) + Edge.lamps(12));
                Check.due("II law " + law + " at step 0 from " + head, x.heads(0, 0), even);
                Check.due("II it goes there", x.at(0, 1), next[even]);
                Check.due("II one bend", x.bends(0), 1);
                GooseShares y = Check.with(Edge.head(5, 4, law, 0, 0) + Edge.flight(12, head, 1) + Edge.lamps(next[head]));
                Check.due("II law " + law + " at step 0 unlit", y.heads(0, 0), head);
                Check.due("II law " + law + " at step 1 from " + head, y.heads(0, 1), odd);
                int there = next[head] + steps[odd];
                Check.due("II it goes there", y.at(0, 2), there > 19 ? -1 : there);
            }
        }
    }

    /** Beyond the land it is out; one row's end is not the next one's beginning. */
    private static void fourSides() {
        int[][] leaving = {{0, 0}, {4, 0}, {4, 1}, {9, 1}, {19, 1}, {15, 2}, {19, 2}, {0, 3}, {5, 3}, {15, 3}};
        for (int[] pair : leaving) {
            GooseShares x = Check.with(Edge.head(5, 4, 0, 0, 0) + Edge.flight(pair[0], pair[1], 1));
            Check.due("II from " + pair[0] + " by " + pair[1], x.at(0, 1), -1);
            Check.due("II out", x.out(0), 1);
            Check.due("II its way", x.way(0), 1 << pair[0]);
        }
        int[][] staying = {{5, 0, 0}, {3, 1, 4}, {14, 2, 19}, {16, 3, 15}};
        for (int[] three : staying) {
            GooseShares x = Check.with(Edge.head(5, 4, 0, 0, 0) + Edge.flight(three[0], three[1], 1));
            Check.due("II from " + three[0] + " by " + three[1], x.at(0, 1), three[2]);
            Check.due("II out then", x.out(0), 2);
        }
        for (int head = 0; head < 4; head++) {
            Check.due("II one cell", Check.with(Edge.head(1, 1, 0, 0, 0) + Edge.flight(0, head, 1)).out(0), 1);
        }
    }

    /** No more than ear by rows and columns together: from each corner, by each ear. */
    private static void distances() {
        int[][] places = {{0, 0}, {4, 0}, {15, 2}, {19, 2}, {2, 0}, {10, 3}};
        for (int ear = 0; ear <= 8; ear++) {
            for (int[] place : places) {
                GooseShares x = Check.with(Edge.head(5, 4, 0, ear, 0) + Edge.flight(place[0], place[1], 3));
                for (int cell = 0; cell < 20; cell++) {
                    int far = Math.abs(cell / 5 - place[0] / 5) + Math.abs(cell % 5 - place[0] % 5);
                    Check.due("III ear " + ear + " from " + place[0] + " to " + cell, x.ears(cell), far <= ear ? 3 : 0);
                }
            }
        }
    }

    /** In one object land behind land, from the widest ear to none and back. */
    private static void earsOfLandBehindLand() {
        GooseShares x = new GooseShares();
        for (int ear : new int[] {8, 0, 3, 1, 7, 2}) {
            Check.land(x, Edge.head(5, 4, 0, ear, 0) + Edge.flight(0, 0, 1) + Edge.member(8, 1, 1));
            Check.due("III ear " + ear + " at 8", x.heard(0), ear >= 4 ? 1 : 0);
            for (int cell = 0; cell < 20; cell++) {
                Check.due("III ear " + ear + " at " + cell, x.ears(cell), cell / 5 + cell % 5 <= ear ? 1 : 0);
            }
            Check.land(x, Edge.head(2, 3, 0, ear, 0) + Edge.flight(0, 0, 1));
            for (int cell = 0; cell < 6; cell++) {
                Check.due("III of a narrow land, ear " + ear + " at " + cell, x.ears(cell), cell / 2 + cell % 2 <= ear ? 1 : 0);
            }
        }
    }

    private static void p9AtP10Heads() {
        GooseShares x = Check.with(THREE);
        for (int flight = 0; flight < 3; flight++) {
            for (int step = 0; step <= 40; step++) {
                int i = step + flight;
                Check.due("P9 at(" + flight + ", " + step + ")", x.at(flight, step), i < WAY.length ? WAY[i] : -1);
                Check.due("P10 heads(" + flight + ", " + step + ")", x.heads(flight, step), headingAt(i));
            }
        }
        Check.due("P9 step 41", x.at(0, 41), -2);
        Check.due("P10 step 41", x.heads(0, 41), -2);
        Check.due("P9 step -1", x.at(0, -1), -2);
        Check.due("P10 step -1", x.heads(0, -1), -2);
        // Out it stays out to the last step.
        GooseShares y = Check.with(Edge.head(2, 1, 0, 0, 0) + Edge.flight(0, 1, 1));
        for (int step = 0; step <= 40; step++) {
            Check.due("P9 at " + step, y.at(0, step), step < 2 ? step : -1);
            Check.due("P10 heads " + step, y.heads(0, step), step < 2 ? 1 : -1);
        }
    }

    /** Where the way leads on to; from its last cell to the left. */
    private static int headingAt(int i) {
        if (i >= WAY.length) {
            return -1;
        }
        int on = i + 1 < WAY.length ? WAY[i + 1] - WAY[i] : -1;
        return on == -5 ? 0 : on == 1 ? 1 : on == 5 ? 2 : 3;
    }

    private static void p11OutToP13Way() {
        GooseShares x = Check.with(THREE);
        int[] outs = {-1, -1, 40};
        int[] ways = {ALL & ~(1 << 15), ALL, ALL};
        for (int flight = 0; flight < 3; flight++) {
            Check.due("P11 out(" + flight + ")", x.out(flight), outs[flight]);
            // Of the first the twentieth bend is at step 40.
            Check.due("P12 bends(" + flight + ")", x.bends(flight), 20);
            Check.due("P13 way(" + flight + ")", x.way(flight), ways[flight]);
        }
        Check.due("P12 no lamp, no bend", Check.with(Edge.head(2, 1, 0, 0, 0) + Edge.flight(0, 1, 1)).bends(0), 0);
        // It bends at the last cell too, and by that goes out.
        GooseShares y = Check.with(Edge.head(2, 2, 0, 0, 0) + Edge.flight(1, 0, 1) + Edge.lamps(1));
        Check.due("P12 bends out", y.bends(0), 1);
        Check.due("P11 out at 1", y.out(0), 1);
        Check.due("P13 one cell", y.way(0), 2);
        // A bend at each step, 0 to 40, none behind.
        GooseShares z = Check.with(Edge.head(2, 2, 0, 0, 0) + Edge.flight(0, 0, 1) + Edge.lamps(0, 1, 2, 3));
        Check.due("P12 41 bends", z.bends(0), 41);
        Check.due("P11 never out", z.out(0), -1);
    }

    private static void p14OverToP18Ears() {
        GooseShares x = Check.with(THREE);
        int[] geese = {1, 2, 4};
        for (int cell = 0; cell < 20; cell++) {
            int over = 0;
            int heard = 0;
            for (int step = 0; step <= 40; step++) {
                int there = 0;
                for (int flight = 0; flight < 3; flight++) {
                    int i = step + flight;
                    if (i < WAY.length && WAY[i] == cell) {
                        over |= 1 << flight;
                        there += geese[flight];
                    }
                }
                heard += there;
                Check.due("P15 geese(" + cell + ", " + step + ")", x.geese(cell, step), there);
            }
            Check.due("P14 over(" + cell + ")", x.over(cell), over);
            Check.due("P18 ears(" + cell + ")", x.ears(cell), heard);
        }
        for (int member = 0; member < 3; member++) {
            int[] hears = {0, 1, 1};
            for (int flight = 0; flight < 3; flight++) {
                Check.due("P16 hears(" + member + ", " + flight + ")", x.hears(member, flight), hears[flight]);
            }
            Check.due("P17 heard(" + member + ")", x.heard(member), 6);
            Check.due("P26 near(" + member + ")", x.near(member), 6);
        }
        Check.due("P15 two in one cell", Check.with(Edge.head(1, 1, 0, 0, 0) + Edge.flight(0, 0, 20).repeat(4)).geese(0, 0), 80);
        Check.due("P15 gone", Check.with(Edge.head(1, 1, 0, 0, 0) + Edge.flight(0, 0, 20)).geese(0, 1), 0);
    }

    /** Heard at step 40 alone it is heard; at 41 it would be too late. */
    private static void lastStepAlone() {
        String member = Edge.member(15, 0, 1) + Edge.member(15, 2, 3);
        GooseShares heard = Check.with(LONG_LAND + Edge.flight(13, 3, 2) + member);
        Check.due("P14 at 40", heard.over(15), 1);
        Check.due("P16 at 40", heard.hears(0, 0), 1);
        Check.due("P17 at 40", heard.heard(0), 2);
        Check.due("P18 at 40", heard.ears(15), 2);
        Check.due("P20 at 40", heard.quiet(), 0);
        Check.due("P21 at 40", heard.served(), 2);
        Check.due("P22 at 40", heard.income(), 3);
        Check.due("P23 at 40", heard.unpaid(), 1);
        Check.due("P24 at 40", heard.first(), 40);
        Check.due("P25 at 40", heard.lacks(), -1);
        Check.due("P26 at 40", heard.near(0), 1);
        Check.due("P27 at 40", heard.lone(), 0);
        Check.due("P30 at 40", heard.calls(40), 2);
        GooseShares late = Check.with(LONG_LAND + Edge.flight(14, 3, 2) + member);
        Check.due("P14 at 41", late.over(15), 0);
        Check.due("P16 at 41", late.hears(0, 0), 0);
        Check.due("P17 at 41", late.heard(0), 0);
        Check.due("P18 at 41", late.ears(15), 0);
        Check.due("P20 at 41", late.quiet(), 1 << 15);
        Check.due("P21 at 41", late.served(), 0);
        Check.due("P22 at 41", late.income(), 0);
        Check.due("P23 at 41", late.unpaid(), 0);
        Check.due("P24 at 41", late.first(), -1);
        Check.due("P25 at 41", late.lacks(), 1);
        Check.due("P26 at 41", late.near(0), 0);
        Check.due("P27 at 41", late.lone(), 3);
        Check.due("P30 at 41", late.calls(41), -2);
    }

    private static void p19LoudP20Quiet() {
        GooseShares none = Check.with(Edge.head(5, 4, 0, 8, 0));
        Check.due("P19 all alike", none.loud(), 0);
        Check.due("P20 all are", none.quiet(), ALL);
        GooseShares last = Check.with(Edge.head(5, 4, 0, 0, 0) + Edge.flight(19, 1, 1));
        Check.due("P19 the last cell", last.loud(), 19);
        Check.due("P20 all but the last", last.quiet(), ALL >> 1);
        GooseShares first = Check.with(Edge.head(5, 4, 0, 0, 0) + Edge.flight(0, 0, 1));
        Check.due("P19 the first cell", first.loud(), 0);
        Check.due("P20 all but the first", first.quiet(), ALL - 1);
        // 18 and 19 alike: the least; then 19 is greater by one.
        GooseShares two = Check.with(Edge.head(5, 4, 0, 0, 0) + Edge.flight(18, 1, 5));
        Check.due("P19 the least of two", two.loud(), 18);
        GooseShares more = Check.with(Edge.head(5, 4, 0, 0, 0) + Edge.flight(18, 1, 5) + Edge.flight(19, 1, 1));
        Check.due("P19 greater by one", more.loud(), 19);
        Check.due("P20 none by the widest ear", Check.with(Edge.head(5, 4, 0, 7, 0) + Edge.flight(0, 0, 1)).quiet(), 0);
        Check.due("P20 the far corner", Check.with(Edge.head(5, 4, 0, 6, 0) + Edge.flight(0, 0, 1)).quiet(), 1 << 19);
    }

    private static void p21Served() {
        for (int wants = 0; wants <= 8; wants++) {
            GooseShares x = Check.with(Edge.head(1, 1, 0, 0, 10) + Edge.flight(0, 0, 7) + Edge.member(0, wants, 5));
            boolean served = wants >= 1 && wants <= 7;
            Check.due("P21 wants " + wants + " of 7", x.served(), served ? 1 : 0);
            Check.due("P22 wants " + wants + " of 7", x.income(), served ? 5 : 0);
            Check.due("P23 wants " + wants + " of 7", x.unpaid(), wants == 0 ? 1 : 0);
            Check.due("P24 wants " + wants + " of 7", x.first(), wants == 0 ? 0 : -1);
            Check.due("P25 wants " + wants + " of 7", x.lacks(), wants == 8 ? 0 : -1);
            Check.due("P29 wants " + wants + " of 7", x.spare(), served ? 7 - wants : 0);
        }
        // HEARD is of all flights and steps together.
        GooseShares x = Check.with(Edge.head(3, 1, 0, 1, 0) + Edge.flight(0, 1, 2) + Edge.flight(2, 3, 3) + Edge.member(1, 15, 1)
                + Edge.member(1, 16, 1));
        Check.due("P21 all together", x.served(), 1);
        Check.due("P17 all together", x.heard(0), 15);
        Check.due("P21 nobody there", Check.with(Edge.head(1, 1, 0, 0, 0) + Edge.flight(0, 0, 7)).served(), 0);
        Check.due("P21 nothing heard, nothing wanted", Check.with(Edge.head(1, 1, 0, 0, 0) + Edge.member(0, 0, 7)).served(), 0);
    }

    private static void p22IncomeP29Spare() {
        GooseShares x = Check.with(Edge.head(1, 1, 0, 0, 0) + Edge.flight(0, 0, 20).repeat(4) + Edge.member(0, 1, 99).repeat(6));
        Check.due("P22 the most", x.income(), 594);
        Check.due("P29 the most of one step", x.spare(), 474);
        Check.due("P21 all six", x.served(), 63);
        GooseShares y = Check.with(Edge.head(1, 1, 0, 0, 0) + Edge.flight(0, 0, 5) + Edge.member(0, 5, 0) + Edge.member(0, 6, 99)
                + Edge.member(0, 0, 99) + Edge.member(0, 2, 1));
        Check.due("P22 only of those", y.income(), 1);
        Check.due("P29 only of those", y.spare(), 3);
    }

    private static void p23Unpaid() {
        // Wants 0 and hears some; wants 0 and hears nothing; wants 1 and hears some.
        GooseShares x = Check.with(Edge.head(2, 1, 0, 0, 0) + Edge.flight(0, 0, 1) + Edge.member(0, 0, 9) + Edge.member(1, 0, 9)
                + Edge.member(0, 1, 9));
        Check.due("P23 one goose", x.unpaid(), 1);
        GooseShares six = Check.with(Edge.head(2, 1, 0, 1, 0) + Edge.flight(0, 0, 1) + Edge.member(1, 0, 9).repeat(6));
        Check.due("P23 all six", six.unpaid(), 63);
        Check.due("P23 none", Check.with(Edge.head(1, 1, 0, 0, 0) + Edge.member(0, 0, 1)).unpaid(), 0);
    }

    private static void p24First() {
        // The first of them hears at 3, the other at 2; one who wants some hears at 0.
        GooseShares x = Check.with(Edge.head(5, 1, 0, 0, 0) + Edge.flight(0, 1, 1) + Edge.member(3, 0, 1) + Edge.member(2, 0, 1)
                + Edge.member(0, 1, 1));
        Check.due("P24 the earlier one", x.first(), 2);
        GooseShares at0 = Check.with(Edge.head(5, 1, 0, 0, 0) + Edge.flight(4, 1, 1) + Edge.member(4, 0, 1));
        Check.due("P24 at step 0", at0.first(), 0);
        GooseShares none = Check.with(Edge.head(5, 1, 0, 0, 0) + Edge.flight(4, 1, 1) + Edge.member(3, 0, 1) + Edge.member(4, 1, 1));
        Check.due("P24 at none", none.first(), -1);
        Check.due("P24 none of them", Check.with(Edge.head(1, 1, 0, 0, 0) + Edge.flight(0, 0, 1)).first(), -1);
    }

    private static void p25Lacks() {
        String head = Edge.head(2, 1, 0, 0, 0) + Edge.flight(0, 0, 5);
        Check.due("P25 none lacks", Check.with(head + Edge.member(0, 5, 1) + Edge.member(1, 0, 1)).lacks(), -1);
        Check.due("P25 by one", Check.with(head + Edge.member(0, 5, 1) + Edge.member(0, 6, 1)).lacks(), 1);
        Check.due("P25 the first of two", Check.with(head + Edge.member(0, 7, 1) + Edge.member(1, 2, 1)).lacks(), 0);
        Check.due("P25 the greater", Check.with(head + Edge.member(0, 7, 1) + Edge.member(1, 3, 1)).lacks(), 1);
        Check.due("P25 nobody", Check.with(head).lacks(), -1);
        Check.due("P25 the last of six", Check.with(head + Edge.member(0, 99, 1).repeat(5) + Edge.member(1, 99, 1)).lacks(), 5);
    }

    private static void p26NearP27Lone() {
        GooseShares x = Check.with(Edge.head(3, 1, 0, 0, 0) + Edge.flight(0, 0, 1) + Edge.flight(1, 0, 1) + Edge.flight(0, 3, 1)
                + Edge.flight(1, 2, 1) + Edge.member(0, 0, 1) + Edge.member(1, 5, 1) + Edge.member(2, 0, 1) + Edge.member(2, 9, 1));
        int[] near = {5, 10, 0, 0};
        for (int member = 0; member < 4; member++) {
            Check.due("P26 near(" + member + ")", x.near(member), near[member]);
        }
        Check.due("P27 who hears nothing, wanting or not", x.lone(), 12);
        Check.due("P27 all", Check.with(Edge.head(1, 1, 0, 0, 0) + Edge.member(0, 1, 1).repeat(6)).lone(), 63);
        Check.due("P27 nobody", Check.with(Edge.head(1, 1, 0, 0, 0)).lone(), 0);
    }

    private static void p28Meets() {
        // One goes round by 3 4 9 8 7 2, in 7 at 4, 10, .., 40; the other is in 7 at 0, 12, 20, 32 and 40.
        GooseShares x = Check.with(Edge.head(5, 4, 0, 0, 0) + Edge.lamps(0, 1, 2, 4, 5, 7, 9, 15, 16, 17) + Edge.flight(3, 1, 1)
                + Edge.flight(7, 2, 1));
        Check.due("P28 at step 40", x.meets(0, 1), 40);
        Check.due("P28 the other way", x.meets(1, 0), 40);
        Check.due("P28 one twice", x.meets(1, 1), 0);
        // One goes round by 2 3 4 9 8 7, in 7 at 5, 11, .., 41; the other is in 7 at 9, 25 and 41.
        GooseShares y = Check.with(Edge.head(5, 4, 0, 0, 0) + Edge.lamps(2, 4, 5, 6, 7, 9, 10, 12, 15, 16, 17, 18) + Edge.flight(2, 0, 1)
                + Edge.flight(16, 2, 1));
        Check.due("P28 at step 41", y.meets(0, 1), -1);
        Check.due("P28 it would be so", y.at(0, 40) == 8 && y.at(1, 40) == 6 ? 0 : 1, 0);
        // Both out are in no cell together; one passes where the other was.
        GooseShares z = Check.with(Edge.head(2, 1, 0, 0, 0) + Edge.flight(0, 0, 1) + Edge.flight(1, 3, 1) + Edge.flight(0, 1, 1));
        Check.due("P28 both out", z.meets(0, 1), -1);
        Check.due("P28 past one another", z.meets(1, 2), -1);
        Check.due("P28 at once", z.meets(0, 2), 0);
    }

    private static void p30Calls() {
        GooseShares x = Check.with(THREE);
        Check.due("P30 at 0", x.calls(0), 7);
        Check.due("P30 at 39", x.calls(39), 7);
        Check.due("P30 at 40", x.calls(40), 3);
        Check.due("P30 none", Check.with(Edge.head(1, 1, 0, 0, 0)).calls(0), 0);
        GooseShares y = Check.with(Edge.head(1, 1, 0, 0, 0) + Edge.flight(0, 0, 20).repeat(4));
        Check.due("P30 the most", y.calls(0), 80);
        Check.due("P30 gone", y.calls(1), 0);
    }

    private static void p31Farthest() {
        Check.due("P31 one cell", Check.with(Edge.head(5, 4, 0, 0, 0) + Edge.flight(9, 1, 1)).farthest(0), 9);
        Check.due("P31 the first", Check.with(Edge.head(5, 4, 0, 0, 0) + Edge.flight(19, 1, 1)).farthest(0), 19);
        Check.due("P31 to the left", Check.with(Edge.head(5, 4, 0, 0, 0) + Edge.flight(9, 3, 1)).farthest(0), 5);
        // 7 8 9 14 19, by 9 and 19 back to 18 17 16 15: 15 and 19 are equally far from 7, the least.
        GooseShares x = Check.with(Edge.head(5, 4, 0, 0, 0) + Edge.flight(7, 1, 1) + Edge.lamps(9, 19));
        Check.due("P31 the least of two", x.farthest(0), 15);
        // Farther by one, though greater.
        GooseShares y = Check.with(Edge.head(5, 4, 0, 0, 0) + Edge.flight(6, 1, 1) + Edge.lamps(9, 19));
        Check.due("P31 farther", y.farthest(0), 19);
    }

    /** Four flocks of twenty that never leave, heard by all at all 41 steps. */
    private static void fullest() {
        GooseShares x = Check.with(Edge.head(2, 2, 0, 8, 0) + Edge.lamps(0, 1, 2, 3) + Edge.flight(0, 0, 20).repeat(4)
                + Edge.member(0, 99, 99).repeat(6));
        Check.due("P16 all steps", x.hears(5, 3), 41);
        Check.due("P17 all geese", x.heard(5), 3280);
        Check.due("P18 all geese", x.ears(3), 3280);
        Check.due("P29 together", x.spare(), 6 * (3280 - 99));
        Check.due("P15 all geese", x.geese(0, 40), 80);
        Check.due("P14 all flights", x.over(3), 15);
        Check.due("P26 all flights", x.near(0), 15);
    }
}
