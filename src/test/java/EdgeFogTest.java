/** Edges of Term VIII and of promises 56 to 58, 63 and 64. */
public final class EdgeFogTest {
    public static void main(String[] args) {
        p56Chance();
        p57Mean();
        p58Flown();
        p63Seeds();
        p63Drawn();
        p63Odds();
        p64Luck();
        lowestTerms();
        Check.finish();
    }

    private static void part(String what, int above, int below, int dueAbove, int dueBelow) {
        Check.due(what + ", above", above, dueAbove);
        Check.due(what + ", below", below, dueBelow);
    }

    private static GooseShares one(int odds, int flights, int wants) {
        return Check.with(Edge.head(1, 1, 0, 0, odds) + Edge.flight(0, 0, 1).repeat(flights) + Edge.member(0, wants, 7));
    }

    private static void p56Chance() {
        for (int odds = 0; odds <= 10; odds++) {
            int above = 10 - odds;
            int divisor = above == 0 ? 10 : above % 5 == 0 && above % 2 == 0 ? 10 : above % 5 == 0 ? 5 : above % 2 == 0 ? 2 : 1;
            GooseShares x = one(odds, 1, 1);
            part("P56 odds " + odds, x.chance(0, 0), x.chance(0, 1), above / divisor, 10 / divisor);
        }
        for (int flights = 0; flights <= 4; flights++) {
            part("P56 wants 0", one(5, flights, 0).chance(0, 0), one(5, flights, 0).chance(0, 1), 0, 1);
            part("P56 wants one more", one(0, flights, flights + 1).chance(0, 0), one(0, flights, flights + 1).chance(0, 1), 0, 1);
        }
        part("P56 all four of four", one(9, 4, 4).chance(0, 0), one(9, 4, 4).chance(0, 1), 1, 10000);
        part("P56 one of four", one(9, 4, 1).chance(0, 0), one(9, 4, 1).chance(0, 1), 3439, 10000);
        part("P56 three of four", one(5, 4, 3).chance(0, 0), one(5, 4, 3).chance(0, 1), 5, 16);
        part("P56 in fog for certain", one(10, 4, 1).chance(0, 0), one(10, 4, 1).chance(0, 1), 0, 1);
        part("P56 never in fog", one(0, 4, 4).chance(0, 0), one(0, 4, 4).chance(0, 1), 1, 1);
        // Only what he hears counts: the second flight is nowhere near.
        GooseShares far = Check.with(Edge.head(2, 1, 0, 0, 3) + Edge.flight(0, 0, 1) + Edge.flight(1, 1, 9) + Edge.member(0, 1, 1));
        part("P56 of one", far.chance(0, 0), far.chance(0, 1), 7, 10);
        for (int what : new int[] {-1, 2, Integer.MIN_VALUE, Integer.MAX_VALUE}) {
            Edge.refused("P56 what " + what, () -> one(5, 1, 1), x -> x.chance(0, what), -2);
            Edge.refused("P56 member " + what, () -> one(5, 1, 1), x -> x.chance(what, 0), -2);
            Edge.refused("P57 what " + what, () -> one(5, 1, 1), x -> x.mean(what), -2);
            Edge.refused("P58 what " + what, () -> one(5, 1, 1), x -> x.flown(0, what), -2);
        }
        Check.due("P56 one member alone", one(5, 1, 1).chance(1, 0), -2);
    }

    private static void p57Mean() {
        part("P57 nobody", Check.with(Edge.head(1, 1, 0, 0, 5)).mean(0), Check.with(Edge.head(1, 1, 0, 0, 5)).mean(1), 0, 1);
        part("P57 never", one(10, 4, 1).mean(0), one(10, 4, 1).mean(1), 0, 1);
        part("P57 always", one(0, 4, 4).mean(0), one(0, 4, 4).mean(1), 7, 1);
        part("P57 half", one(5, 1, 1).mean(0), one(5, 1, 1).mean(1), 7, 2);
        part("P57 the rarest", one(9, 4, 4).mean(0), one(9, 4, 4).mean(1), 7, 10000);
        GooseShares most = Check.with(Edge.head(1, 1, 0, 0, 1) + Edge.flight(0, 0, 1).repeat(4) + Edge.member(0, 1, 99).repeat(6));
        // 594 times 9999 in 10000.
        part("P57 the most", most.mean(0), most.mean(1), 2969703, 5000);
        Check.due("P57 no land", new GooseShares().mean(0), -2);
    }

    private static void p58Flown() {
        int[][][] due = {
            {{1, 1}, {0, 1}, {0, 1}, {0, 1}, {0, 1}},
            {{1, 1}, {4, 5}, {0, 1}, {0, 1}, {0, 1}},
            {{1, 1}, {24, 25}, {16, 25}, {0, 1}, {0, 1}},
            {{1, 1}, {124, 125}, {112, 125}, {64, 125}, {0, 1}},
            {{1, 1}, {624, 625}, {608, 625}, {512, 625}, {256, 625}}};
        for (int flights = 0; flights <= 4; flights++) {
            GooseShares x = Check.with(Edge.head(1, 1, 0, 0, 2) + Edge.flight(0, 0, 1).repeat(flights));
            for (int n = 0; n <= 4; n++) {
                part("P58 " + n + " of " + flights, x.flown(n, 0), x.flown(n, 1), due[flights][n][0], due[flights][n][1]);
            }
            Check.due("P58 n 5", x.flown(5, 0), -2);
            Check.due("P58 n -1", x.flown(-1, 1), -2);
            Check.due("P58 n 5 and no what", x.flown(5, 2), -2);
        }
        for (int n = 0; n <= 4; n++) {
            GooseShares never = Check.with(Edge.head(1, 1, 0, 0, 0) + Edge.flight(0, 0, 1).repeat(4));
            GooseShares always = Check.with(Edge.head(1, 1, 0, 0, 10) + Edge.flight(0, 0, 1).repeat(4));
            part("P58 never in fog", never.flown(n, 0), never.flown(n, 1), 1, 1);
            part("P58 always in fog", always.flown(n, 0), always.flown(n, 1), n == 0 ? 1 : 0, 1);
        }
        Check.due("P58 no land", new GooseShares().flown(0, 0), -2);
    }

    private static GooseShares four(int odds) {
        return Check.with(Edge.head(1, 1, 0, 0, odds) + Edge.flight(0, 0, 1) + Edge.flight(0, 0, 2) + Edge.flight(0, 0, 4)
                + Edge.flight(0, 0, 8) + Edge.member(0, 15, 1) + Edge.member(0, 8, 1) + Edge.member(0, 1, 1) + Edge.member(0, 0, 1));
    }

    private static void p63Seeds() {
        for (int seed : new int[] {-1, 2000000001, Integer.MIN_VALUE, Integer.MAX_VALUE}) {
            Edge.refused("P63 seed " + seed, () -> four(5), x -> x.drawn(seed, 0), -2);
            Edge.refused("P63 seed " + seed, () -> four(5), x -> x.drawn(seed, 1), -2);
            Edge.refused("P64 seed " + seed, () -> four(5), x -> x.luck(seed, 1, 0), -2);
        }
        for (int what : new int[] {-1, 2, Integer.MIN_VALUE, Integer.MAX_VALUE}) {
            Edge.refused("P63 what " + what, () -> four(5), x -> x.drawn(0, what), -2);
        }
        for (int n : new int[] {-1, 0, 21, Integer.MIN_VALUE, Integer.MAX_VALUE}) {
            Edge.refused("P64 n " + n, () -> four(5), x -> x.luck(0, n, 0), -2);
        }
        for (int member : new int[] {-1, 4, Integer.MIN_VALUE, Integer.MAX_VALUE}) {
            Edge.refused("P64 member " + member, () -> four(5), x -> x.luck(0, 1, member), -2);
        }
        Check.due("P63 no land", new GooseShares().drawn(0, 0), -2);
        Check.due("P64 no land", new GooseShares().luck(0, 1, 0), -2);
    }

    /** Draws of 8 8 3 5 from 1, 0 8 8 7 from 0, 4 3 1 7 from 2,000,000,000. */
    private static void p63Drawn() {
        int[] seeds = {1, 0, 2000000000};
        int[][] draws = {{8, 8, 3, 5}, {0, 8, 8, 7}, {4, 3, 1, 7}};
        for (int i = 0; i < seeds.length; i++) {
            for (int odds = 0; odds <= 10; odds++) {
                int fog = 0;
                int heard = 0;
                for (int flight = 0; flight < 4; flight++) {
                    fog |= draws[i][flight] < odds ? 1 << flight : 0;
                    heard += draws[i][flight] < odds ? 0 : 1 << flight;
                }
                GooseShares x = four(odds);
                Check.due("P63 drawn(" + seeds[i] + ", 0) by " + odds, x.drawn(seeds[i], 0), fog);
                int served = (heard >= 15 ? 1 : 0) | (heard >= 8 ? 2 : 0) | (heard >= 1 ? 4 : 0);
                Check.due("P63 drawn(" + seeds[i] + ", 1) by " + odds, x.drawn(seeds[i], 1), served);
                Check.due("P64 one night from " + seeds[i], x.luck(seeds[i], 1, 1), served >> 1 & 1);
            }
        }
    }

    private static void p63Odds() {
        // Below odds is in fog: none at 0, all at 10, from any seed; a draw of just odds is not.
        for (int seed = 0; seed < 30; seed++) {
            Check.due("P63 none at 0", four(0).drawn(seed, 0), 0);
            Check.due("P63 all at 10", four(10).drawn(seed, 0), 15);
            Check.due("P63 all served at 0", four(0).drawn(seed, 1), 7);
            Check.due("P63 nobody at 10", four(10).drawn(seed, 1), 0);
        }
        Check.due("P63 8 below 9", four(9).drawn(1, 0) & 1, 1);
        Check.due("P63 8 is not below 8", four(8).drawn(1, 0) & 1, 0);
        GooseShares none = Check.with(Edge.head(1, 1, 0, 0, 10) + Edge.member(0, 1, 1));
        Check.due("P63 no flights", none.drawn(7, 0), 0);
        Check.due("P63 no flights", none.drawn(7, 1), 0);
        // As many draws as there are flights, each its own.
        GooseShares two = Check.with(Edge.head(1, 1, 0, 0, 8) + Edge.flight(0, 0, 1).repeat(2));
        Check.due("P63 two of them", two.drawn(0, 0), 1);
    }

    private static void p64Luck() {
        Check.due("P64 twenty at 0", four(0).luck(0, 20, 0), 20);
        Check.due("P64 twenty at 10", four(10).luck(0, 20, 2), 0);
        Check.due("P64 who wants nothing", four(0).luck(0, 20, 3), 0);
        // The last seeds lie beyond what may be told.
        Check.due("P64 from the last seed", four(0).luck(2000000000, 20, 0), 20);
        for (int n = 1; n <= 20; n++) {
            int nights = 0;
            int last = 0;
            for (int i = 0; i < n; i++) {
                nights += firstDraw(5L + i) < 4 ? 0 : 1;
                last += firstDraw(2000000000L + i) < 4 ? 0 : 1;
            }
            GooseShares x = Check.with(Edge.head(1, 1, 0, 0, 4) + Edge.flight(0, 0, 1) + Edge.member(0, 1, 1));
            Check.due("P64 " + n + " from 5", x.luck(5, n, 0), nights);
            Check.due("P64 " + n + " from the last", x.luck(2000000000, n, 0), last);
        }
    }

    private static long firstDraw(long seed) {
        return (1103515245L * seed + 12345L) % 2147483648L / 65536 % 10;
    }

    private static void lowestTerms() {
        // 0 is 0 / 1 and all is 1 / 1, whatever the number of nights.
        for (int flights = 0; flights <= 4; flights++) {
            GooseShares x = one(5, flights, 99);
            part("VIII in lowest terms", x.chance(0, 0), x.chance(0, 1), 0, 1);
            part("VIII in lowest terms", x.mean(0), x.mean(1), 0, 1);
            part("VIII in lowest terms", x.flown(0, 0), x.flown(0, 1), 1, 1);
            part("VIII in lowest terms", x.flown(flights, 0), x.flown(flights, 1), 1, 1 << flights);
        }
    }
}
