/** Promises 1 to 8: a new object, the tape, the land that is read from it and its faults. */
public final class TapeTest {
    private static final String HEAD = "land wide 5 high 4 law 0 ear 8 odds 10;";

    public static void main(String[] args) {
        newObject();
        feedAndEnd();
        fullTape();
        fedBytesAreHighestFirst();
        linesAndCounts();
        landInPlaceOfAnother();
        faultsOfTokens();
        faultsOfBounds();
        faultsOfNumbers();
        faultsOfManyLines();
        faultLeavesAll();
        flightsAndMembers();
        Check.finish();
    }

    private static void newObject() {
        GooseShares x = new GooseShares();
        Check.due("NONE", GooseShares.NONE, -1);
        Check.due("new lamps()", x.lamps(), -2);
        Check.due("new flight(0, 0)", x.flight(0, 0), -2);
        Check.due("new undo()", x.undo(), -2);
        for (int what = 0; what <= 11; what++) {
            Check.due("new count(" + what + ")", x.count(what), 0);
        }
        Check.due("new fault(0)", x.fault(0), 0);
        Check.due("new fault(1)", x.fault(1), -1);
        Check.due("new fault(2)", x.fault(2), -1);
        Check.due("new fault(-1)", x.fault(-1), -1);
    }

    private static void feedAndEnd() {
        GooseShares x = new GooseShares();
        for (int i = 1; i <= 40; i++) {
            Check.due("feed " + i, x.feed(0, 0, 0, 0, 0), 20 * i);
        }
        Check.due("feed beyond 800", x.feed(0, 0, 0, 0, 0), -1);
        Check.due("none came", x.count(10), 800);
        Check.due("end(801)", x.end(801), -1);
        Check.due("end(-1)", x.end(-1), -1);
        Check.due("nothing happened", x.count(10), 800);
        Check.due("end(800)", x.end(800), 800);
        Check.due("end(781)", x.end(781), 781);
        Check.due("feed to 801", x.feed(0, 0, 0, 0, 0), -1);
        Check.due("end(780)", x.end(780), 780);
        Check.due("feed to 800", x.feed(0, 0, 0, 0, 0), 800);
        Check.due("end(0)", x.end(0), 0);
        Check.due("end(1)", x.end(1), -1);
        Check.due("end(MIN)", x.end(Integer.MIN_VALUE), -1);
        Check.due("end(MAX)", x.end(Integer.MAX_VALUE), -1);
    }

    private static void fullTape() {
        // 39 bytes and 76 lamps of ten, one blank.
        String full = HEAD + "lamp at 7;".repeat(76) + " ";
        Check.due("a full tape", Check.land(new GooseShares(), full), 77);
        isFaulty(full.substring(0, 799) + "x", 1, 799);
        isFaulty(full.substring(0, 799) + "7", 1, 799);
        isFaulty(full.substring(0, 798) + "  ", 1, 800);
        isFaulty(full.substring(0, 797) + "777", 2, 797);
        isFaulty(full.substring(0, 795) + "aaaaa", 1, 794);
        isFaulty("land wide 5" + " ".repeat(789), 1, 800);
        Check.due("800 blanks", Check.land(new GooseShares(), " ".repeat(800)), 0);
    }

    private static void fedBytesAreHighestFirst() {
        GooseShares x = new GooseShares();
        // "land wide 1 high 1 l", "aw 0 ear 0 odds 0;  "
        Check.due("feed", x.feed(0x6c616e64, 0x20776964, 0x65203120, 0x68696768, 0x2031206c), 20);
        Check.due("feed", x.feed(0x61772030, 0x20656172, 0x2030206f, 0x64647320, 0x303b2020), 40);
        Check.due("land()", x.land(), 1);
        Check.due("count(5)", x.count(5), 1);
        // A number below 0 gives bytes above 127, which are no token.
        Check.due("feed", x.feed(-1, 0, 0, 0, 0), 20);
        Check.due("land()", x.land(), -4);
        Check.due("fault(1)", x.fault(1), 0);
    }

    private static void linesAndCounts() {
        GooseShares x = new GooseShares();
        int lines = Check.land(x, "land wide 5 high 4 law 3 ear 8 odds 10;flight at 19 heads 3 geese 20\n;\n"
                + "member at0wants99pays99;lamp at 3;lamp at 3;lamp at 000;");
        Check.due("land()", lines, 6);
        int[] counts = {5, 4, 3, 8, 10, 20, 1, 1, 0, 6, 0, 0};
        for (int what = 0; what < counts.length; what++) {
            Check.due("count(" + what + ")", x.count(what), counts[what]);
        }
        Check.due("count(12)", x.count(12), -1);
        Check.due("count(-1)", x.count(-1), -1);
        Check.due("lamps()", x.lamps(), 9);
        Check.due("fault(0)", x.fault(0), 0);
        Check.due("fault(1)", x.fault(1), -1);
        Check.due("no lamp", Check.with(HEAD).lamps(), 0);
        Check.due("least land", Check.land(x, " land wide 1 high 1 law 0 ear 0 odds 0 ;\n"), 1);
    }

    private static void landInPlaceOfAnother() {
        GooseShares x = Check.with(HEAD + "flight at 0 heads 0 geese 1;lamp at 1;");
        Check.due("light", x.light(2, 1), 0);
        Check.due("acts", x.count(8), 1);
        Check.due("land()", Check.land(x, HEAD + "lamp at 4;"), 2);
        Check.due("nothing done", x.count(8), 0);
        Check.due("flights", x.count(6), 0);
        Check.due("lamps()", x.lamps(), 16);
        Check.due("blanks alone", Check.land(x, " \n \n"), 0);
        Check.due("no land then", x.lamps(), -2);
        Check.due("no lines", x.count(9), 0);
        Check.due("no width", x.count(0), 0);
        Check.due("the tape is empty", x.count(10), 0);
        Check.land(x, HEAD);
        Check.due("empty tape", x.land(), 0);
        Check.due("no land then", x.served(), -2);
    }

    private static void isFaulty(String text, int fault, int place) {
        GooseShares x = new GooseShares();
        Check.due("land() of " + text, Check.land(x, text), -4);
        Check.due("fault(0) of " + text, x.fault(0), fault);
        Check.due("fault(1) of " + text, x.fault(1), place);
        Check.due("no land", x.lamps(), -2);
    }

    private static void faultsOfTokens() {
        isFaulty("land wide 5", 1, 11);
        isFaulty("land wide 5  \n", 1, 14);
        isFaulty("land", 1, 4);
        isFaulty("flight at 0", 1, 0);
        isFaulty("  lamp at 0;", 1, 2);
        isFaulty("lands wide 5", 1, 0);
        isFaulty("lan wide 5", 1, 0);
        isFaulty("Land wide 5", 1, 0);
        isFaulty("xand wide 5", 1, 0);
        isFaulty("lanz wide 5", 1, 0);
        // The longest word: a letter behind it makes it another word, not a second token.
        isFaulty("landz wide 5", 1, 0);
        isFaulty("landa wide 5", 1, 0);
        isFaulty(";", 1, 0);
        isFaulty("5", 1, 0);
        isFaulty("land high 4", 1, 5);
        isFaulty("land wide wide", 1, 10);
        isFaulty("land wide -1", 1, 10);
        isFaulty("land wide ;", 1, 10);
        isFaulty("land wide 5 5", 1, 12);
        isFaulty("land wide 5\thigh 4", 1, 11);
        isFaulty("land wide 5 high 4 law 0 ear 8 odds 10", 1, 38);
        isFaulty("land wide 5 high 4 law 0 ear 8 odds 10 10;", 1, 39);
        isFaulty(HEAD + ";", 1, 39);
        isFaulty(HEAD + " " + HEAD, 1, 40);
        isFaulty(HEAD + "goose at 0;", 1, 39);
        isFaulty(HEAD + "7", 1, 39);
        isFaulty(HEAD + "lamp 0;", 1, 44);
        isFaulty(HEAD + "lamp at 0", 1, 48);
        isFaulty(HEAD + "lamp at 0 heads 1;", 1, 49);
        isFaulty(HEAD + "flight at 0 geese 1;", 1, 51);
        isFaulty(HEAD + "lampat 0;", 1, 39);
        isFaulty(HEAD + (char) 233, 1, 39);
        isFaulty(HEAD + (char) 0, 1, 39);
    }

    private static void faultsOfBounds() {
        isFaulty("land wide 0", 2, 10);
        isFaulty("land wide 6 high 4", 2, 10);
        isFaulty("land wide 5 high 0", 2, 17);
        isFaulty("land wide 5 high 5", 2, 17);
        isFaulty("land wide 5 high 4 law 4", 2, 23);
        isFaulty("land wide 5 high 4 law 0 ear 9", 2, 29);
        isFaulty("land wide 5 high 4 law 0 ear 8 odds 11", 2, 36);
        isFaulty(HEAD + "lamp at 20;", 2, 47);
        isFaulty("land wide 2 high 3 law 0 ear 8 odds 10;lamp at 6;", 2, 47);
        isFaulty(HEAD + "flight at 20 heads 0 geese 1;", 2, 49);
        isFaulty(HEAD + "flight at 0 heads 4 geese 1;", 2, 57);
        isFaulty(HEAD + "flight at 0 heads 3 geese 0;", 2, 65);
        isFaulty(HEAD + "flight at 0 heads 3 geese 21;", 2, 65);
        isFaulty(HEAD + "member at 99 wants 0 pays 0;", 2, 49);
        isFaulty(HEAD + "member at 0 wants 100 pays 0;", 2, 57);
        isFaulty(HEAD + "member at 0 wants 99 pays 100;", 2, 65);
    }

    private static void faultsOfNumbers() {
        // Numbers too great for an int or a long are out of bounds, not wrapped into them.
        isFaulty("land wide 4294967297", 2, 10);
        isFaulty("land wide 18446744073709551617", 2, 10);
        isFaulty("land wide 1000000000000000000000000000000000000000000000001 @", 2, 10);
        Check.due("many noughts", Check.land(new GooseShares(),
                "land wide 00000000000000000000005 high 04 law 00 ear 008 odds 010;"), 1);
    }

    private static void faultsOfManyLines() {
        String flight = "flight at 0 heads 1 geese 1;";
        String member = "member at 0 wants 0 pays 0;";
        String full = HEAD + flight.repeat(4) + member.repeat(6);
        Check.due("four flights, six members", Check.land(new GooseShares(), full), 11);
        isFaulty(full + " flight", 3, full.length() + 1);
        isFaulty(full + " member at 99", 3, full.length() + 1);
        isFaulty(full + "lamp at 20;flight", 2, full.length() + 8);
        Check.due("a lamp behind them", Check.land(new GooseShares(), full + "lamp at 0;"), 12);
        isFaulty(HEAD + flight.repeat(5), 3, 39 + 4 * flight.length());
        isFaulty(HEAD + member.repeat(7), 3, 39 + 6 * member.length());
    }

    private static void faultLeavesAll() {
        GooseShares x = Check.with(HEAD + "flight at 3 heads 1 geese 9;lamp at 2;");
        x.light(7, 1);
        Check.due("a fault", Check.land(x, HEAD + "flight at 0 heads 9"), -4);
        Check.due("fault(0)", x.fault(0), 2);
        Check.due("fault(1)", x.fault(1), 57);
        Check.due("fault(3)", x.fault(3), -1);
        Check.due("the tape stays", x.count(10), 58);
        Check.due("acts stay", x.count(8), 1);
        Check.due("lamps stay", x.lamps(), 132);
        Check.due("flights stay", x.flight(0, 0), 3);
        Check.due("the same again", x.land(), -4);
        Check.due("a good land", Check.land(x, HEAD), 1);
        Check.due("no fault", x.fault(0), 0);
        Check.due("no place", x.fault(1), -1);
    }

    private static void flightsAndMembers() {
        GooseShares x = Check.with(HEAD + "flight at 3 heads 1 geese 9;member at 4 wants 8 pays 7;"
                + "member at 19 wants 0 pays 99;flight at 18 heads 0 geese 20;");
        int[][] flights = {{3, 1, 9}, {18, 0, 20}};
        int[][] members = {{4, 8, 7}, {19, 0, 99}};
        for (int i = 0; i < 2; i++) {
            for (int what = 0; what < 3; what++) {
                Check.due("flight(" + i + ", " + what + ")", x.flight(i, what), flights[i][what]);
                Check.due("member(" + i + ", " + what + ")", x.member(i, what), members[i][what]);
            }
            Check.due("flight, what 3", x.flight(i, 3), -2);
            Check.due("flight, what -1", x.flight(i, -1), -2);
            Check.due("member, what 3", x.member(i, 3), -2);
            Check.due("member, what -1", x.member(i, -1), -2);
        }
        Check.due("flight(2, 0)", x.flight(2, 0), -2);
        Check.due("flight(-1, 0)", x.flight(-1, 0), -2);
        Check.due("member(2, 0)", x.member(2, 0), -2);
        Check.due("member(-1, 0)", x.member(-1, 0), -2);
    }
}
