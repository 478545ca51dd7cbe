/** Promises 59 to 62 and 65 to 68: acts, what they change, taken back; rates, counts and images. */
public final class ActTest {
    private static final String LAND = "land wide 3 high 3 law 0 ear 0 odds 5;flight at 0 heads 1 geese 2;flight at 8 heads 3 geese 1;"
            + "member at 6 wants 2 pays 9;member at 2 wants 2 pays 4;lamp at 5;";

    public static void main(String[] args) {
        lighting();
        turning();
        takingBack();
        fortyActs();
        rates();
        images();
        imageOfNoLand();
        wrongOnes();
        Check.finish();
    }

    private static void lighting() {
        GooseShares x = Check.with(LAND);
        Check.due("light(0, 1)", x.light(0, 1), 0);
        Check.due("lamps()", x.lamps(), 33);
        Check.due("it goes 0 3 6", x.at(0, 2), 6);
        Check.due("income()", x.income(), 9);
        Check.due("light(0, 1) again", x.light(0, 1), 1);
        Check.due("light(5, 0)", x.light(5, 0), 1);
        Check.due("lamps()", x.lamps(), 1);
        Check.due("light(5, 0) again", x.light(5, 0), 0);
        // An act that changes nothing is an act too.
        Check.due("acts", x.count(8), 4);
        Check.due("undo", x.undo(), 3);
        Check.due("lamps()", x.lamps(), 1);
        Check.due("undo", x.undo(), 2);
        Check.due("lamps()", x.lamps(), 33);
        Check.due("undo", x.undo(), 1);
        Check.due("lamps()", x.lamps(), 33);
        Check.due("undo", x.undo(), 0);
        Check.due("lamps()", x.lamps(), 32);
        Check.due("undo of none", x.undo(), -5);
    }

    private static void turning() {
        GooseShares x = Check.with(LAND);
        Check.due("turn(0, 2)", x.turn(0, 2), 1);
        Check.due("flight(0, 1)", x.flight(0, 1), 2);
        Check.due("flight(1, 1)", x.flight(1, 1), 3);
        Check.due("at(0, 2)", x.at(0, 2), 6);
        Check.due("heads(0, 0)", x.heads(0, 0), 2);
        Check.due("turn(0, 2) again", x.turn(0, 2), 2);
        Check.due("turn(1, 0)", x.turn(1, 0), 3);
        Check.due("turned by the lamp at 5", x.at(1, 2), -1);
        Check.due("acts", x.count(8), 3);
        Check.due("undo", x.undo(), 2);
        Check.due("flight(1, 1)", x.flight(1, 1), 3);
        Check.due("undo", x.undo(), 1);
        Check.due("flight(0, 1)", x.flight(0, 1), 2);
        Check.due("undo", x.undo(), 0);
        Check.due("flight(0, 1)", x.flight(0, 1), 1);
    }

    private static void takingBack() {
        GooseShares x = Check.with(LAND);
        Check.due("anew of none", x.anew(), 0);
        x.turn(0, 3);
        x.light(1, 1);
        x.turn(0, 0);
        x.light(5, 0);
        x.light(1, 0);
        Check.due("anew", x.anew(), 5);
        Check.due("acts", x.count(8), 0);
        Check.due("lamps()", x.lamps(), 32);
        Check.due("flight(0, 1)", x.flight(0, 1), 1);
        Check.due("anew again", x.anew(), 0);
        Check.due("undo", x.undo(), -5);
    }

    private static void fortyActs() {
        GooseShares x = Check.with(LAND);
        for (int i = 0; i < 20; i++) {
            x.light(i % 9, i / 9 % 2 == 0 ? 1 : 0);
            x.turn(i % 2, i % 4);
        }
        Check.due("acts", x.count(8), 40);
        int lamps = x.lamps();
        Check.due("light beyond", x.light(4, 1), -5);
        Check.due("turn beyond", x.turn(0, 1), -5);
        Check.due("lamps stay", x.lamps(), lamps);
        Check.due("no such cell first", x.light(9, 1), -2);
        Check.due("no such on first", x.light(0, 2), -2);
        Check.due("no such flight first", x.turn(2, 0), -2);
        Check.due("no such heading first", x.turn(0, 4), -2);
        Check.due("undo", x.undo(), 39);
        Check.due("light once more", x.light(4, 1), lamps >> 4 & 1);
        Check.due("turn beyond", x.turn(0, 1), -5);
        Check.due("anew", x.anew(), 40);
        Check.due("lamps()", x.lamps(), 32);
        Check.due("flight(0, 1)", x.flight(0, 1), 1);
        Check.due("flight(1, 1)", x.flight(1, 1), 3);
        Check.due("light anew", x.light(4, 1), 0);
    }

    private static void rates() {
        GooseShares x = Check.with(LAND);
        Check.due("rate(1, 99)", x.rate(1, 99), 4);
        Check.due("member(1, 2)", x.member(1, 2), 99);
        Check.due("income()", x.income(), 99);
        Check.due("rate(1, 0)", x.rate(1, 0), 99);
        Check.due("it is no act", x.count(8), 0);
        x.light(0, 1);
        Check.due("rate behind an act", x.rate(1, 5), -5);
        Check.due("no such member first", x.rate(2, 5), -2);
        Check.due("no such pay first", x.rate(1, 100), -2);
        Check.due("it stays", x.member(1, 2), 0);
        x.undo();
        Check.due("rate, acts taken back", x.rate(1, 5), 0);
        x.light(0, 1);
        x.anew();
        Check.due("anew leaves rates", x.member(1, 2), 5);
    }

    private static void images() {
        GooseShares x = Check.with(LAND);
        Check.due("back of nothing", x.back(0), -6);
        x.rate(0, 77);
        x.light(0, 1);
        x.turn(1, 0);
        Check.due("image(0)", x.image(0), 0);
        x.light(3, 1);
        Check.due("image(2)", x.image(2), 0);
        Check.due("back(1) of nothing", x.back(1), -6);
        Check.row(x, 0, 0, 1, 2);
        Check.due("another land", Check.land(x, "land wide 1 high 1 law 1 ear 1 odds 1;"), 1);
        Check.tape(x, "land wide 9");
        Check.due("a fault", x.land(), -4);
        Check.due("back(0)", x.back(0), 0);
        Check.due("lamps()", x.lamps(), 33);
        Check.due("pays", x.member(0, 2), 77);
        Check.due("heads", x.flight(1, 1), 0);
        Check.due("acts", x.count(8), 2);
        Check.due("lines", x.count(9), 6);
        Check.due("the law", x.count(2), 0);
        // The tape, its fault and the slots are no part of an image.
        Check.due("the tape", x.count(10), 11);
        Check.due("the fault", x.fault(0), 2);
        Check.due("the slots", x.count(11), 1);
        Check.due("undo", x.undo(), 1);
        Check.due("heads", x.flight(1, 1), 3);
        Check.due("undo", x.undo(), 0);
        Check.due("lamps()", x.lamps(), 32);
        Check.due("at(0, 2)", x.at(0, 2), 2);
        // What was done behind it has not changed the image.
        Check.due("back(0) again", x.back(0), 0);
        Check.due("lamps()", x.lamps(), 33);
        Check.due("back(2)", x.back(2), 0);
        Check.due("lamps()", x.lamps(), 41);
        Check.due("acts", x.count(8), 3);
        Check.due("image(0) in place of another", x.image(0), 0);
        x.anew();
        Check.due("back(0)", x.back(0), 0);
        Check.due("lamps()", x.lamps(), 41);
    }

    private static void imageOfNoLand() {
        GooseShares x = new GooseShares();
        Check.due("image of no land", x.image(1), 0);
        Check.due("land", Check.land(x, LAND), 6);
        Check.due("back(1)", x.back(1), 0);
        Check.due("no land", x.lamps(), -2);
        Check.due("no flights", x.count(6), 0);
        Check.due("no such cell", x.light(0, 1), -2);
    }

    private static void wrongOnes() {
        GooseShares x = Check.with(LAND);
        int[] no = {-1, 9, Integer.MIN_VALUE, Integer.MAX_VALUE};
        for (int wrong : no) {
            Check.due("light " + wrong, x.light(wrong, 1), -2);
            Check.due("light on " + wrong, x.light(0, wrong), -2);
            Check.due("turn " + wrong, x.turn(wrong, 1), -2);
            Check.due("turn heads " + wrong, x.turn(0, wrong), -2);
            Check.due("rate " + wrong, x.rate(wrong, 1), -2);
            Check.due("image " + wrong, x.image(wrong), -2);
            Check.due("back " + wrong, x.back(wrong), -2);
        }
        Check.due("image(3)", x.image(3), -2);
        Check.due("back(3)", x.back(3), -2);
        Check.due("turn(0, 4)", x.turn(0, 4), -2);
        Check.due("rate below", x.rate(0, -1), -2);
        Check.due("no acts", x.count(8), 0);
        GooseShares none = new GooseShares();
        Check.due("light without a land", none.light(0, 1), -2);
        Check.due("turn without a land", none.turn(0, 1), -2);
        Check.due("undo without a land", none.undo(), -2);
        Check.due("anew without a land", none.anew(), -2);
        Check.due("rate without a land", none.rate(0, 1), -2);
        Check.due("back of nothing", none.back(2), -6);
    }
}
