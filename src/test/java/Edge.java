/** For tests of edges: all that can be seen of an object, so that a call can be shown to have left it as it was. */
final class Edge {
    /** A land with all kinds of lines: six cells, two flights, three members. */
    static final String HALL = "land wide 3 high 2 law 0 ear 1 odds 5;flight at 0 heads 1 geese 2;flight at 5 heads 3 geese 3;"
            + "member at 2 wants 2 pays 7;member at 3 wants 0 pays 4;member at 4 wants 99 pays 9;lamp at 1;";

    interface Ask {
        int of(GooseShares x);
    }

    interface Make {
        GooseShares made();
    }

    private Edge() {
    }

    /** An object that has something everywhere: a land, acts, images, rows, a tape, a fault of the latest land(). */
    static GooseShares rich() {
        GooseShares x = Check.with(HALL);
        x.image(2);
        x.light(3, 1);
        x.turn(1, 0);
        x.image(0);
        x.light(1, 0);
        Check.land(x, "land wide 7");
        Check.tape(x, "land wide 2 high 2 law 3 ear 4 odds 5;lamp at 3;");
        Check.row(x, 0, 1, 0, 0, 0, 1, 1, -1);
        Check.row(x, 1, 0, 0, 1);
        Check.row(x, 2, 3);
        return x;
    }

    /** What is refused is answered so, and nothing else has changed by it. */
    static void refused(String call, Make make, Ask ask, int due) {
        GooseShares x = make.made();
        Check.due(call, ask.of(x), due);
        stays(call, looks(x), looks(make.made()));
    }

    /** A call that only asks, whatever it answers. */
    static void changesNothing(String call, Make make, Ask ask) {
        GooseShares x = make.made();
        ask.of(x);
        stays(call, looks(x), looks(make.made()));
    }

    static void stays(String call, String now, String before) {
        if (!now.equals(before)) {
            System.out.println("before " + before + "\nnow    " + now);
        }
        Check.due("behind " + call + " all is as it was", now.equals(before) ? 0 : 1, 0);
    }

    /** Asks first what changes nothing; then the acts, the images and the tape are seen by using them up. */
    static String looks(GooseShares x) {
        StringBuilder b = new StringBuilder();
        landAsItIs(b, x);
        b.append(" fault ").append(x.fault(0)).append(' ').append(x.fault(1));
        b.append(" tape ").append(x.count(10)).append(" rows ").append(x.count(11));
        rows(b, x);
        acts(b, x);
        for (int k = 0; k < 3; k++) {
            b.append(" image ").append(x.back(k));
            landAsItIs(b, x);
            acts(b, x);
        }
        b.append(" land ").append(x.land()).append(' ').append(x.fault(0)).append(' ').append(x.fault(1));
        landAsItIs(b, x);
        return b.toString();
    }

    private static void landAsItIs(StringBuilder b, GooseShares x) {
        b.append(" [");
        for (int what = 0; what < 10; what++) {
            b.append(x.count(what)).append(' ');
        }
        b.append(x.lamps());
        for (int what = 0; what < 3; what++) {
            for (int flight = 0; flight < x.count(6); flight++) {
                b.append(' ').append(x.flight(flight, what));
            }
            for (int member = 0; member < x.count(7); member++) {
                b.append(' ').append(x.member(member, what));
            }
        }
        b.append(' ').append(x.at(0, 1)).append(' ').append(x.served()).append(']');
    }

    private static void acts(StringBuilder b, GooseShares x) {
        for (int i = 0; i < 41; i++) {
            int left = x.undo();
            b.append(' ').append(left);
            if (left < 0) {
                return;
            }
            b.append('/').append(x.lamps()).append('/').append(x.flight(i % 2, 1));
        }
    }

    private static void rows(StringBuilder b, GooseShares x) {
        for (int slot = 0; slot < 4; slot++) {
            b.append(" row ").append(x.laws(slot)).append(' ').append(x.began(slot)).append(' ').append(lengthOf(x, slot));
            for (int other = 0; other < slot; other++) {
                b.append(' ').append(x.paste(slot, 0, other, 0, 0));
            }
        }
    }

    /** As many numbers as can be pasted onto themselves; -6 if there is no row. */
    static int lengthOf(GooseShares x, int slot) {
        if (x.paste(slot, 0, slot, 0, 0) != 0) {
            return -6;
        }
        int least = 0;
        int most = 60;
        while (least < most) {
            int middle = (least + most + 1) / 2;
            if (x.paste(slot, 0, slot, 0, middle) == 0) {
                least = middle;
            } else {
                most = middle - 1;
            }
        }
        return least;
    }

    /** Lines of a land's text. */
    static String lamps(int... cells) {
        StringBuilder b = new StringBuilder();
        for (int cell : cells) {
            b.append("lamp at ").append(cell).append(';');
        }
        return b.toString();
    }

    static String flight(int cell, int heads, int geese) {
        return "flight at " + cell + " heads " + heads + " geese " + geese + ";";
    }

    static String member(int cell, int wants, int pays) {
        return "member at " + cell + " wants " + wants + " pays " + pays + ";";
    }

    static String head(int wide, int high, int law, int ear, int odds) {
        return "land wide " + wide + " high " + high + " law " + law + " ear " + ear + " odds " + odds + ";";
    }
}
