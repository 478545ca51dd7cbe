import java.util.ArrayList;
import java.util.List;

/** Edges of Term I, TOKENS and FAULTS, and of promises 1 to 8. */
public final class EdgeTapeTest {
    private static final String HEAD = "land wide 5 high 4 law 0 ear 8 odds 10;";
    private static final String[] HEAD_TOKENS = {"land", "wide", "5", "high", "4", "law", "0", "ear", "8", "odds", "10", ";"};
    private static final String[] FLIGHT_TOKENS = {"flight", "at", "19", "heads", "3", "geese", "20", ";"};
    private static final String[] MEMBER_TOKENS = {"member", "at", "19", "wants", "99", "pays", "99", ";"};
    private static final String[] LAMP_TOKENS = {"lamp", "at", "19", ";"};

    public static void main(String[] args) {
        boundsOfNumbers();
        boundsOfCells();
        longNumbers();
        tokensOutOfPlace();
        everyByte();
        longestTokens();
        endsAndBlanks();
        firstByPlace();
        leastOfOnePlace();
        tooMany();
        lampTwice();
        numberedAsTheyStand();
        p1NewObject();
        p2Feed();
        p3End();
        p4Land();
        p4Fault();
        p5Fault();
        p6FlightP7Member();
        p8Lamps();
        Check.finish();
    }

    private static void good(String text, int lines) {
        GooseShares x = new GooseShares();
        Check.due("land() of " + text, Check.land(x, text), lines);
        Check.due("fault(0) of " + text, x.fault(0), 0);
        Check.due("fault(1) of " + text, x.fault(1), -1);
        Check.due("lines of " + text, x.count(9), lines);
    }

    private static void faulty(String text, int fault, int place) {
        GooseShares x = new GooseShares();
        Check.due("land() of " + text, Check.land(x, text), -4);
        Check.due("fault(0) of " + text, x.fault(0), fault);
        Check.due("fault(1) of " + text, x.fault(1), place);
        Check.due("no land by " + text, x.lamps(), -2);
    }

    /** A number at its least and greatest is taken as it is; one less and one more are out of bounds, at its place. */
    private static void bounds(String ahead, String behind, int least, int greatest, Edge.Ask read) {
        for (int value : new int[] {least, greatest}) {
            GooseShares x = Check.with(ahead + value + behind);
            Check.due("told " + ahead + value, read.of(x), value);
            Check.due("told with noughts " + ahead + value, read.of(Check.with(ahead + "000" + value + behind)), value);
        }
        if (least > 0) {
            faulty(ahead + (least - 1) + behind, 2, ahead.length());
            faulty(ahead + "00" + behind, 2, ahead.length());
        }
        faulty(ahead + (greatest + 1) + behind, 2, ahead.length());
        faulty(ahead + "0" + (greatest + 1) + behind, 2, ahead.length());
        faulty(ahead + greatest + "0" + behind, 2, ahead.length());
    }

    private static void boundsOfNumbers() {
        bounds("land wide ", " high 4 law 0 ear 8 odds 10;", 1, 5, x -> x.count(0));
        bounds("land wide 5 high ", " law 0 ear 8 odds 10;", 1, 4, x -> x.count(1));
        bounds("land wide 5 high 4 law ", " ear 8 odds 10;", 0, 3, x -> x.count(2));
        bounds("land wide 5 high 4 law 0 ear ", " odds 10;", 0, 8, x -> x.count(3));
        bounds("land wide 5 high 4 law 0 ear 8 odds ", ";", 0, 10, x -> x.count(4));
        bounds(HEAD + "flight at ", " heads 1 geese 1;", 0, 19, x -> x.flight(0, 0));
        bounds(HEAD + "flight at 7 heads ", " geese 1;", 0, 3, x -> x.flight(0, 1));
        bounds(HEAD + "flight at 7 heads 1 geese ", ";", 1, 20, x -> x.flight(0, 2));
        bounds(HEAD + "member at ", " wants 1 pays 1;", 0, 19, x -> x.member(0, 0));
        bounds(HEAD + "member at 7 wants ", " pays 1;", 0, 99, x -> x.member(0, 1));
        bounds(HEAD + "member at 7 wants 1 pays ", ";", 0, 99, x -> x.member(0, 2));
        bounds(HEAD + "lamp at ", ";", 0, 19, x -> Integer.numberOfTrailingZeros(x.lamps()));
    }

    /** Cells go up to wide times high, less 1, in every size of land. */
    private static void boundsOfCells() {
        for (int wide = 1; wide <= 5; wide++) {
            for (int high = 1; high <= 4; high++) {
                String head = Edge.head(wide, high, 0, 0, 0);
                int cells = wide * high;
                Check.due("cells of " + head, Check.with(head).count(5), cells);
                Check.due("the last lamp of " + head, Check.with(head + Edge.lamps(cells - 1)).lamps(), 1 << cells - 1);
                faulty(head + Edge.lamps(cells), 2, head.length() + 8);
                Check.due("the last start of " + head, Check.with(head + Edge.flight(cells - 1, 0, 1)).flight(0, 0), cells - 1);
                faulty(head + Edge.flight(cells, 0, 1), 2, head.length() + 10);
                Check.due("the last house of " + head, Check.with(head + Edge.member(cells - 1, 0, 0)).member(0, 0), cells - 1);
                faulty(head + Edge.member(cells, 0, 0), 2, head.length() + 10);
            }
        }
    }

    private static void longNumbers() {
        // What wraps round to a number within bounds by 8, 16, 32 or 64 bits is out of them all the same.
        String[] numbers = {"257", "65537", "4294967297", "18446744073709551617", "2147483648", "9".repeat(700)};
        for (String number : numbers) {
            faulty("land wide " + number + " high 4 law 0 ear 8 odds 10;", 2, 10);
        }
        Check.due("700 noughts", Check.with("land wide " + "0".repeat(700) + "3 high 4 law 0 ear 8 odds 10;").count(0), 3);
    }

    /** In each kind of line each token is put in place of by one that can't stand there, left out, and the end put there. */
    private static void tokensOutOfPlace() {
        outOfPlace("", HEAD_TOKENS);
        outOfPlace(HEAD, FLIGHT_TOKENS);
        outOfPlace(HEAD, MEMBER_TOKENS);
        outOfPlace(HEAD, LAMP_TOKENS);
    }

    private static void outOfPlace(String ahead, String[] tokens) {
        good(ahead + String.join(" ", tokens), ahead.isEmpty() ? 1 : 2);
        for (int i = 0; i < tokens.length; i++) {
            StringBuilder before = new StringBuilder(ahead);
            for (int k = 0; k < i; k++) {
                before.append(tokens[k]).append(' ');
            }
            StringBuilder behind = new StringBuilder();
            for (int k = i + 1; k < tokens.length; k++) {
                behind.append(' ').append(tokens[k]);
            }
            int place = before.length();
            for (String wrong : inPlaceOf(tokens[i])) {
                faulty(before + wrong + behind, 1, place);
                faulty(before + wrong, 1, place);
            }
            if (i > 0) {
                faulty(before.toString(), 1, place);
                faulty(before.toString().trim(), 1, place - 1);
            }
            // Left out: what comes behind it stands at its place, with the blank ahead.
            if (i + 1 < tokens.length) {
                faulty(before + behind.toString(), 1, place + 1);
            }
        }
    }

    private static List<String> inPlaceOf(String token) {
        List<String> wrong = new ArrayList<>(List.of("@", "-", ".", "x", "A", "goose"));
        if (!token.equals(";")) {
            wrong.add(";");
        }
        char sign = token.charAt(0);
        if (sign >= '0' && sign <= '9') {
            wrong.addAll(List.of("land", "at", "-1", "+1", "wide"));
        } else {
            wrong.addAll(List.of("0", "1", "99", "999"));
        }
        if (sign >= 'a' && sign <= 'z') {
            wrong.addAll(List.of(token + "s", token + token, token.substring(0, token.length() - 1), token.substring(1), "x" + token,
                    token.toUpperCase(), token.substring(0, 1).toUpperCase() + token.substring(1)));
            wrong.add(token.equals("at") ? "heads" : "at");
        }
        if (token.equals("land")) {
            wrong.addAll(List.of("flight", "member", "lamp"));
        }
        if (List.of("flight", "member", "lamp").contains(token)) {
            wrong.addAll(List.of("land", "wide", "heads", "wants"));
        }
        return wrong;
    }

    /** Only 32 and 10 are blanks, a to z letters, 0 to 9 digits and 59 the sign. */
    private static void everyByte() {
        String behind = " high 4 law 0 ear 8 odds 10;";
        for (int sign = 0; sign < 256; sign++) {
            char c = (char) sign;
            boolean blank = sign == 32 || sign == 10;
            boolean digit = sign >= 48 && sign <= 57;
            boolean letter = sign >= 97 && sign <= 122;
            if (blank) {
                good(HEAD + c, 1);
                good(c + HEAD, 1);
                good("land" + c + "wide 5" + c + behind, 1);
                faulty("land wide " + c + behind, 1, 12);
                continue;
            }
            faulty(HEAD + c, 1, 39);
            faulty(c + HEAD, 1, 0);
            // A letter makes a longer word, whose place is its first byte; what is no letter ends the word.
            faulty("land" + c + "wide 5" + behind, 1, letter ? 0 : 4);
            // A digit makes a longer number, 50 to 59.
            faulty("land wide 5" + c + behind, digit ? 2 : 1, digit ? 10 : 11);
            if (sign >= 49 && sign <= 53) {
                good("land wide " + c + behind, 1);
            } else {
                faulty("land wide " + c + behind, digit ? 2 : 1, 10);
            }
        }
    }

    private static void longestTokens() {
        // Words and numbers need no blank between them; nor does the sign.
        good("land wide5high4law0ear8odds10;flight at0heads0geese1;member at0wants0pays0;lamp at0;lamp at1;", 5);
        good("\nland\n\n wide 5 high 4\nlaw 0 ear 8 odds 10 \n;\n \n", 1);
        faulty("landwide 5 high 4", 1, 0);
        faulty("land wide 5 highlaw 4", 1, 12);
        // 1 0 is two numbers.
        faulty("land wide 5 high 4 law 0 ear 8 odds 1 0;", 1, 38);
        faulty("land wide 5 high 4 law 0 ear 8 odds 10;;", 1, 39);
        faulty("la nd wide 5", 1, 0);
    }

    private static void endsAndBlanks() {
        good("", 0);
        good(" ", 0);
        good("\n", 0);
        good(" ".repeat(800), 0);
        good(HEAD, 1);
        // The end's place is behind the last byte of the tape, blanks too.
        faulty("l", 1, 0);
        faulty("land", 1, 4);
        faulty("land ", 1, 5);
        faulty("land\n \n", 1, 7);
        faulty("land wide 5 high 4 law 0 ear 8 odds 10", 1, 38);
        faulty("land wide 5 high 4 law 0 ear 8 odds 10  ", 1, 40);
        faulty("land" + " ".repeat(796), 1, 800);
        // A tape that is full to its last byte.
        String full = HEAD + Edge.lamps(7).repeat(76);
        good(full + " ", 77);
        faulty(full + "l", 1, 799);
        faulty(full.substring(0, 798) + " ", 1, 799);
        // It ends in the middle of a word, of a number.
        faulty(HEAD + "flight at 0 hea", 1, 51);
        faulty(HEAD + "flight at 2", 1, 50);
        faulty(HEAD + "lamp at 99", 2, 47);
    }

    private static void firstByPlace() {
        faulty("land wide 6 high 5 law 4 ear 9 odds 11;", 2, 10);
        faulty("land wide 6 @", 2, 10);
        faulty("land wide 5 @ high 9", 1, 12);
        faulty("@ land wide 6", 1, 0);
        faulty(HEAD + "lamp at 20;" + "goose", 2, 47);
        faulty(HEAD + "goose;lamp at 20;", 1, 39);
        faulty(HEAD + Edge.flight(0, 0, 21) + Edge.flight(0, 0, 1).repeat(4), 2, 65);
        faulty(HEAD + Edge.flight(0, 0, 1).repeat(3) + "flight at 0 heads 0 geese 21;" + Edge.flight(0, 0, 1), 2, 39 + 84 + 26);
        faulty(HEAD + Edge.flight(0, 0, 1).repeat(5) + "@", 3, 39 + 112);
    }

    private static void leastOfOnePlace() {
        // A number that can't stand there and would be out of all bounds; a word that can't, of a fifth flight, a seventh member.
        faulty("land 999", 1, 5);
        faulty("999", 1, 0);
        faulty(HEAD + "999", 1, 39);
        faulty(HEAD + "lamp at 7 999;", 1, 49);
        String four = HEAD + Edge.flight(0, 0, 1).repeat(4);
        faulty(four + "lamp at 7 flight at 0", 1, four.length() + 10);
        faulty(four + "lamp at flight", 1, four.length() + 8);
        faulty(four + "lamp flight", 1, four.length() + 5);
        String six = HEAD + Edge.member(0, 0, 0).repeat(6);
        faulty(six + "lamp at 7 member at 0", 1, six.length() + 10);
        faulty(six + "lamp member", 1, six.length() + 5);
        // A land behind the first line is out of place, whatever it tells.
        faulty(HEAD + "land wide 9", 1, 39);
        faulty(HEAD + HEAD, 1, 39);
    }

    private static void tooMany() {
        String flight = Edge.flight(0, 0, 1);
        String member = Edge.member(0, 0, 0);
        for (int many = 0; many <= 4; many++) {
            Check.due("flights", Check.with(HEAD + flight.repeat(many)).count(6), many);
        }
        for (int many = 0; many <= 6; many++) {
            Check.due("members", Check.with(HEAD + member.repeat(many)).count(7), many);
        }
        String four = HEAD + flight.repeat(4);
        faulty(four + flight, 3, four.length());
        faulty(four + " flight", 3, four.length() + 1);
        faulty(four + "flight at 99", 3, four.length());
        faulty(four + "flights", 1, four.length());
        good(four + member.repeat(6) + Edge.lamps(0), 12);
        String six = HEAD + member.repeat(6);
        faulty(six + member, 3, six.length());
        faulty(six + "\nmember", 3, six.length() + 1);
        faulty(six + "member;", 3, six.length());
        faulty(six + "membe", 1, six.length());
        good(six + flight.repeat(4), 11);
        // Lines between them do not matter.
        String mixed = HEAD + (flight + member + Edge.lamps(3)).repeat(4);
        faulty(mixed + member.repeat(2) + "flight", 3, mixed.length() + 2 * member.length());
        faulty(mixed + member.repeat(2) + "member", 3, mixed.length() + 2 * member.length());
    }

    private static void lampTwice() {
        GooseShares x = Check.with(HEAD + Edge.lamps(0, 19, 0, 19, 19));
        Check.due("two lamps", x.lamps(), 1 << 19 | 1);
        Check.due("six lines", x.count(9), 6);
        x.light(19, 0);
        Check.due("one is put out", x.lamps(), 1);
        int[] all = new int[20];
        for (int cell = 0; cell < 20; cell++) {
            all[cell] = cell;
        }
        Check.due("a lamp in each cell", Check.with(HEAD + Edge.lamps(all)).lamps(), (1 << 20) - 1);
    }

    private static void numberedAsTheyStand() {
        GooseShares x = Check.with(HEAD + Edge.member(5, 1, 2) + Edge.lamps(9) + Edge.flight(8, 3, 4) + Edge.member(4, 3, 2)
                + Edge.flight(2, 1, 20) + Edge.member(5, 1, 2));
        int[][] members = {{5, 1, 2}, {4, 3, 2}, {5, 1, 2}};
        int[][] flights = {{8, 3, 4}, {2, 1, 20}};
        for (int what = 0; what < 3; what++) {
            for (int member = 0; member < 3; member++) {
                Check.due("member " + member, x.member(member, what), members[member][what]);
            }
            for (int flight = 0; flight < 2; flight++) {
                Check.due("flight " + flight, x.flight(flight, what), flights[flight][what]);
            }
        }
        Check.due("lines", x.count(9), 7);
    }

    private static void p1NewObject() {
        GooseShares x = new GooseShares();
        for (int what = 0; what <= 11; what++) {
            Check.due("P1 count(" + what + ")", x.count(what), 0);
        }
        Check.due("P1 lamps()", x.lamps(), -2);
        Check.due("P1 the tape is empty", x.end(0), 0);
        Check.due("P1 no byte", x.end(1), -1);
        for (int i = 0; i < 4; i++) {
            Check.due("P1 no row", x.write(i, 0, 0), -6);
            Check.due("P1 no image", x.back(i), i < 3 ? -6 : -2);
        }
        Check.due("P1 an empty tape is no land", x.land(), 0);
        Check.due("P1 lamps()", x.lamps(), -2);
        // One object's land is not another's.
        GooseShares other = Check.with(HEAD);
        Check.due("P1 another object", other.lamps(), 0);
        Check.due("P1 lamps()", x.lamps(), -2);
    }

    private static void p2Feed() {
        GooseShares x = new GooseShares();
        for (int many = 20; many <= 800; many += 20) {
            Check.due("P2 feed", x.feed(0x20202020, 0x20202020, 0x20202020, 0x20202020, 0x20202020), many);
        }
        Check.due("P2 beyond 800", x.feed(-1, -1, -1, -1, -1), -1);
        Check.due("P2 none came", x.count(10), 800);
        Check.due("P2 none came", x.land(), 0);
        Check.due("P2 the tape is empty again", x.feed(0, 0, 0, 0, 0), 20);
        // From each length near the edge: 780 is the last that leaves room.
        int[][] near = {{779, 799}, {780, 800}, {781, -1}, {790, -1}, {799, -1}, {800, -1}};
        for (int[] pair : near) {
            GooseShares y = new GooseShares();
            Check.tape(y, HEAD + " ".repeat(pair[0] - 39));
            Check.due("P2 feed behind " + pair[0], y.feed(0x20202020, 0x20202020, 0x20202020, 0x20202020, 0x20202020), pair[1]);
            Check.due("P2 it has", y.count(10), Math.max(pair[0], pair[1]));
            Check.due("P2 none came or all", y.land(), 1);
        }
        // Each of the twenty bytes at its place: one that is no token is found there.
        for (int place = 0; place < 20; place++) {
            int[] numbers = {0x20202020, 0x20202020, 0x20202020, 0x20202020, 0x20202020};
            numbers[place / 4] |= 0xff << 24 - place % 4 * 8;
            GooseShares y = new GooseShares();
            y.feed(numbers[0], numbers[1], numbers[2], numbers[3], numbers[4]);
            Check.due("P2 land()", y.land(), -4);
            Check.due("P2 the place of byte " + place, y.fault(1), place);
            Check.due("P2 its fault", y.fault(0), 1);
        }
        // Twenty more come behind those.
        GooseShares z = new GooseShares();
        z.feed(0x20202020, 0x20202020, 0x20202020, 0x20202020, 0x20202020);
        z.feed(0x20202020, 0x20202020, 0x20202020, 0x20202020, 0x20202040);
        Check.due("P2 land()", z.land(), -4);
        Check.due("P2 behind the TAPE", z.fault(1), 39);
    }

    private static void p3End() {
        Edge.Make make = () -> {
            GooseShares x = new GooseShares();
            Check.tape(x, HEAD + "@");
            return x;
        };
        for (int n : new int[] {-1, 41, 60, 800, 801, Integer.MIN_VALUE, Integer.MAX_VALUE}) {
            Edge.refused("P3 end(" + n + ")", make, x -> x.end(n), -1);
        }
        GooseShares all = make.made();
        Check.due("P3 end(40)", all.end(40), 40);
        Check.due("P3 all is there", all.land(), -4);
        Check.due("P3 the last byte", all.fault(1), 39);
        GooseShares less = make.made();
        Check.due("P3 end(39)", less.end(39), 39);
        Check.due("P3 what is cut is gone", less.end(40), -1);
        Check.due("P3 it has", less.count(10), 39);
        Check.due("P3 its first bytes", less.land(), 1);
        Check.due("P3 end(0) of an empty one", less.end(0), 0);
        Check.due("P3 end(1) of an empty one", less.end(1), -1);
        GooseShares none = make.made();
        Check.due("P3 end(0)", none.end(0), 0);
        Check.due("P3 nothing is there", none.land(), 0);
        // What is fed then comes behind the n first.
        GooseShares again = make.made();
        again.end(39);
        Check.due("P3 feed behind 39", again.feed(0x6c616d70, 0x20617420, 0x37203b20, 0x20202020, 0x20202020), 59);
        Check.due("P3 both are there", again.land(), 2);
        Check.due("P3 lamp at 7", again.lamps(), 128);
    }

    private static void p4Land() {
        GooseShares x = Edge.rich();
        Check.due("P4 acts ahead", x.count(8), 3);
        Check.due("P4 lines", x.land(), 2);
        Check.due("P4 the tape is empty then", x.count(10), 0);
        Check.due("P4 nothing done", x.count(8), 0);
        Check.due("P4 nothing to take back", x.undo(), -5);
        int[] counts = {2, 2, 3, 4, 5, 4, 0, 0, 0, 2, 0, 3};
        for (int what = 0; what < counts.length; what++) {
            Check.due("P4 count(" + what + ")", x.count(what), counts[what]);
        }
        Check.due("P4 lamps()", x.lamps(), 8);
        Check.due("P4 flights of the other are gone", x.flight(0, 0), -2);
        Check.due("P4 members of the other are gone", x.member(0, 0), -2);
        Check.due("P4 images stay", x.back(0), 0);
        Check.due("P4 the other is back", x.count(8), 2);
        Check.due("P4 no image here", x.back(1), -6);
        // Nothing on the tape: there is none then.
        Check.due("P4 an empty tape", x.land(), 0);
        Check.due("P4 there is none then", x.lamps(), -2);
        Check.due("P4 no acts", x.count(8), 0);
        Check.due("P4 undo", x.undo(), -2);
        Check.due("P4 no flights", x.flight(0, 0), -2);
        Check.due("P4 no cells", x.ears(0), -2);
        Check.due("P4 images stay", x.back(2), 0);
        Check.due("P4 the first is back", x.count(9), 7);
        for (int lines = 1; lines <= 76; lines += 25) {
            Check.due("P4 lines", Check.land(x, HEAD + Edge.lamps(7).repeat(lines - 1)), lines);
            Check.due("P4 count(9)", x.count(9), lines);
        }
    }

    private static void p4Fault() {
        String[] faulty = {"land wide 6", "flight at 0 heads 0 geese 1;", HEAD + Edge.flight(0, 0, 1).repeat(5), HEAD + "lamp at 7"};
        for (String text : faulty) {
            GooseShares x = Edge.rich();
            Check.due("P4 a fault", Check.land(x, text), -4);
            Check.due("P4 the tape stays", x.count(10), text.length());
            Check.due("P4 the same again", x.land(), -4);
            Check.due("P4 the tape stays still", x.end(text.length()), text.length());
            GooseShares before = Edge.rich();
            Check.tape(before, text);
            before.land();
            Edge.stays("P4 " + text, Edge.looks(x), Edge.looks(before));
            // But for the fault and the tape it is as it was ahead of it.
            GooseShares without = Edge.rich();
            GooseShares with = Edge.rich();
            Check.land(with, text);
            int[] same = {0, 1, 2, 3, 4, 5, 6, 7, 8, 9, 11};
            for (int what : same) {
                Check.due("P4 count(" + what + ") stays", with.count(what), without.count(what));
            }
            Check.due("P4 lamps stay", with.lamps(), without.lamps());
            Check.due("P4 a flight stays", with.flight(1, 1), without.flight(1, 1));
            Check.due("P4 a member stays", with.member(2, 2), 9);
            Check.due("P4 laws stay", with.laws(0), without.laws(0));
            Check.due("P4 acts stay", with.undo(), without.undo());
            Check.due("P4 images stay", with.back(2), 0);
            Check.due("P4 images stay", with.count(8), 0);
        }
        // Mended behind the fault, the tape is a land.
        GooseShares y = new GooseShares();
        Check.due("P4 no end", Check.land(y, "land wide 5 high 4 law 0 ear 8 odds 10"), -4);
        Check.due("P4 the end comes", y.feed(0x3b202020, 0x20202020, 0x20202020, 0x20202020, 0x20202020), 58);
        Check.due("P4 it is a land", y.land(), 1);
        Check.due("P4 no fault", y.fault(0), 0);
    }

    private static void p5Fault() {
        GooseShares x = new GooseShares();
        for (int what : new int[] {-1, 2, 3, Integer.MIN_VALUE, Integer.MAX_VALUE}) {
            Check.due("P5 another what ahead of any", x.fault(what), -1);
        }
        Check.due("P5 what 0 ahead of any", x.fault(0), 0);
        Check.due("P5 what 1 ahead of any", x.fault(1), -1);
        Check.due("P5 a fault", Check.land(x, "  @"), -4);
        Check.due("P5 what 0", x.fault(0), 1);
        Check.due("P5 what 1", x.fault(1), 2);
        for (int what : new int[] {-1, 2, 3, Integer.MIN_VALUE, Integer.MAX_VALUE}) {
            Check.due("P5 another what", x.fault(what), -1);
        }
        // It is of the latest land(), whatever comes behind that.
        x.end(0);
        x.image(0);
        x.back(0);
        x.feed(0, 0, 0, 0, 0);
        Check.due("P5 it stays", x.fault(0), 1);
        Check.due("P5 it stays", x.fault(1), 2);
        Check.due("P5 another fault", Check.land(x, "land wide 0"), -4);
        Check.due("P5 what 0", x.fault(0), 2);
        Check.due("P5 what 1", x.fault(1), 10);
        Check.due("P5 a third", Check.land(x, HEAD + Edge.member(0, 0, 0).repeat(7)), -4);
        Check.due("P5 what 0", x.fault(0), 3);
        Check.due("P5 what 1", x.fault(1), 39 + 162);
        Check.due("P5 at the first byte", Check.land(x, ";"), -4);
        Check.due("P5 what 0", x.fault(0), 1);
        Check.due("P5 what 1", x.fault(1), 0);
        Check.due("P5 none by an empty tape", Check.land(x, ""), 0);
        Check.due("P5 what 0", x.fault(0), 0);
        Check.due("P5 what 1", x.fault(1), -1);
        Check.land(x, "@");
        Check.due("P5 none by a land", Check.land(x, HEAD), 1);
        Check.due("P5 what 0", x.fault(0), 0);
        Check.due("P5 what 1", x.fault(1), -1);
    }

    private static void p6FlightP7Member() {
        GooseShares x = Check.with(HEAD + Edge.flight(0, 0, 1) + Edge.flight(1, 1, 2) + Edge.flight(2, 2, 3) + Edge.flight(19, 3, 20)
                + Edge.member(0, 0, 0) + Edge.member(1, 1, 1) + Edge.member(2, 2, 2) + Edge.member(3, 3, 3) + Edge.member(4, 4, 4)
                + Edge.member(19, 99, 98));
        Check.due("P6 the last flight's cell", x.flight(3, 0), 19);
        Check.due("P6 heads", x.flight(3, 1), 3);
        Check.due("P6 geese", x.flight(3, 2), 20);
        Check.due("P6 the first flight's cell", x.flight(0, 0), 0);
        Check.due("P6 heads", x.flight(0, 1), 0);
        Check.due("P6 geese", x.flight(0, 2), 1);
        Check.due("P7 the last member's cell", x.member(5, 0), 19);
        Check.due("P7 wants", x.member(5, 1), 99);
        Check.due("P7 pays", x.member(5, 2), 98);
        Check.due("P7 the first member's cell", x.member(0, 0), 0);
        // As it is now: turned, rated.
        x.rate(5, 97);
        Check.due("P7 pays now", x.member(5, 2), 97);
        x.turn(3, 1);
        Check.due("P6 heads now", x.flight(3, 1), 1);
        Check.due("P6 begins as ever", x.flight(3, 0), 19);
    }

    private static void p8Lamps() {
        GooseShares x = Check.with(HEAD);
        Check.due("P8 none lit", x.lamps(), 0);
        x.light(0, 1);
        Check.due("P8 the first cell", x.lamps(), 1);
        x.light(19, 1);
        Check.due("P8 the last too", x.lamps(), 1 + (1 << 19));
        x.light(0, 0);
        Check.due("P8 the last alone", x.lamps(), 1 << 19);
    }
}
