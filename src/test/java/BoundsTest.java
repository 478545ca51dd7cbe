import java.lang.reflect.Method;
import java.util.Arrays;

/**
 * Each number that a call takes, at the least and the greatest that it may be, and at the first on either side that it may
 * not: in a land without flights and members, in one with some, in the fullest, and without a land. What is refused changes
 * nothing.
 */
public final class BoundsTest {
    private enum Kind {
        FLIGHT, MEMBER, CELL, STEP, FIELD, SET, UP_TO_3, UP_TO_4, PRICE, SLOT, PART, CHOICE, HEADING, SEED, NIGHTS, PAY, IMAGE
    }

    private record Face(String name, int refusal, Kind... kinds) {
    }

    private record Place(String name, Edge.Make make, int cells, int flights, int members) {
    }

    private static final Face[] FACES = {
        face("flight", Kind.FLIGHT, Kind.FIELD), face("member", Kind.MEMBER, Kind.FIELD), face("lamps"),
        face("at", Kind.FLIGHT, Kind.STEP), face("heads", Kind.FLIGHT, Kind.STEP), face("out", Kind.FLIGHT),
        face("bends", Kind.FLIGHT), face("way", Kind.FLIGHT), face("over", Kind.CELL), face("geese", Kind.CELL, Kind.STEP),
        face("hears", Kind.MEMBER, Kind.FLIGHT), face("heard", Kind.MEMBER), face("ears", Kind.CELL), face("loud"),
        face("quiet"), face("served"), face("income"), face("unpaid"), face("first"), face("lacks"), face("near", Kind.MEMBER),
        face("lone"), face("meets", Kind.FLIGHT, Kind.FLIGHT), face("spare"), face("calls", Kind.STEP),
        face("farthest", Kind.FLIGHT), face("fewest", Kind.SET), face("lights", Kind.SET), face("best", Kind.UP_TO_3),
        face("bests", Kind.UP_TO_3), face("most", Kind.UP_TO_3), face("more"), face("less"), face("by", Kind.UP_TO_3),
        face("law"), face("laws", Kind.SLOT), face("ask", Kind.SLOT), face("began", Kind.SLOT), face("spots", Kind.SLOT),
        face("who", Kind.SLOT), face("leaves", Kind.SLOT), face("odds", Kind.SLOT, Kind.MEMBER, Kind.PART), face("homes"),
        face("home", Kind.MEMBER), face("swaps"), face("swap"), face("price", Kind.PRICE), face("cut", Kind.MEMBER, Kind.PART),
        face("rests", Kind.MEMBER, Kind.MEMBER),
        new Face("has", -1000, Kind.MEMBER, Kind.MEMBER, Kind.CHOICE, Kind.CHOICE), face("chance", Kind.MEMBER, Kind.PART),
        face("mean", Kind.PART), face("flown", Kind.UP_TO_4, Kind.PART), face("light", Kind.CELL, Kind.CHOICE),
        face("turn", Kind.FLIGHT, Kind.HEADING), face("undo"), face("anew"), face("drawn", Kind.SEED, Kind.CHOICE),
        face("luck", Kind.SEED, Kind.NIGHTS, Kind.MEMBER), face("rate", Kind.MEMBER, Kind.PAY), face("image", Kind.IMAGE),
        face("back", Kind.IMAGE)};

    private static final Place[] PLACES = {
        new Place("no land", () -> dressed(new GooseShares()), 0, 0, 0),
        new Place("the least land", () -> dressed(Check.with(Edge.head(1, 1, 0, 0, 0))), 1, 0, 0),
        new Place("the widest land, empty", () -> dressed(Check.with(Edge.head(5, 4, 3, 8, 10))), 20, 0, 0),
        new Place("the hall", () -> dressed(Check.with(Edge.HALL)), 6, 2, 3),
        new Place("the fullest land", () -> dressed(Check.with(full())), 20, 4, 6)};

    public static void main(String[] args) {
        for (Place place : PLACES) {
            for (Face face : FACES) {
                standing(place, face);
                for (int k = 0; k < face.kinds.length; k++) {
                    edgesOf(place, face, k);
                }
            }
        }
        oneTwice();
        Check.finish();
    }

    private static Face face(String name, Kind... kinds) {
        return new Face(name, -2, kinds);
    }

    private static String full() {
        return Edge.head(5, 4, 2, 1, 5) + Edge.flight(0, 1, 20).repeat(4) + Edge.member(19, 99, 99).repeat(6);
    }

    /** Rows and images are there, so that nothing but the number that is asked for can be refused. */
    private static GooseShares dressed(GooseShares x) {
        for (int i = 0; i < 4; i++) {
            x.row(i, i, 0);
            x.image(i);
        }
        return x;
    }

    private static int least(Kind kind) {
        return kind == Kind.NIGHTS ? 1 : 0;
    }

    /** Below the least if there is none such at all. */
    private static int greatest(Kind kind, Place place) {
        switch (kind) {
            case FLIGHT: return place.flights - 1;
            case MEMBER: return place.members - 1;
            case CELL: return place.cells - 1;
            case STEP: return 40;
            case FIELD: return 2;
            case SET: return (1 << place.members) - 1;
            case UP_TO_4: return 4;
            case PRICE: return 999;
            case PART: case CHOICE: return 1;
            case SEED: return 2000000000;
            case NIGHTS: return 20;
            case PAY: return 99;
            case IMAGE: return 2;
            default: return 3;
        }
    }

    private static boolean needsLand(Face face) {
        return !face.name.equals("image") && !face.name.equals("back");
    }

    /** Whether the call with all at their least is one that is answered. */
    private static boolean canStand(Place place, Face face) {
        boolean stands = place.cells > 0 || !needsLand(face);
        for (Kind kind : face.kinds) {
            stands &= greatest(kind, place) >= least(kind);
        }
        return stands && (!isGame(face) || place.members > 1);
    }

    private static int[] leastOf(Face face) {
        int[] values = new int[face.kinds.length];
        for (int k = 0; k < values.length; k++) {
            values[k] = least(face.kinds[k]);
        }
        if (isGame(face)) {
            values[1] = 1;
        }
        return values;
    }

    private static void standing(Place place, Face face) {
        ask(place, face, leastOf(face), canStand(place, face));
    }

    private static void edgesOf(Place place, Face face, int k) {
        int low = least(face.kinds[k]);
        int high = greatest(face.kinds[k], place);
        int[] values = leastOf(face);
        int[] beyond = {low - 1, Math.max(high, low - 1) + 1, Integer.MIN_VALUE, Integer.MAX_VALUE};
        for (int wrong : beyond) {
            values[k] = wrong;
            ask(place, face, values, false);
        }
        values[k] = high;
        if (canStand(place, face)) {
            ask(place, face, values, true);
        }
    }

    /** Two members, not one twice; every place here that has members has more than two. */
    private static boolean isGame(Face face) {
        return face.name.equals("rests") || face.name.equals("has");
    }

    private static void ask(Place place, Face face, int[] values, boolean stands) {
        String call = place.name + ": " + face.name + Arrays.toString(values);
        if (stands) {
            Check.due(call + " is refused", answer(face, place.make.made(), values) == face.refusal ? 1 : 0, 0);
        } else {
            Edge.refused(call, place.make, x -> answer(face, x, values), face.refusal);
        }
    }

    private static int answer(Face face, GooseShares x, int[] values) {
        Class<?>[] types = new Class<?>[values.length];
        Object[] given = new Object[values.length];
        for (int k = 0; k < values.length; k++) {
            types[k] = int.class;
            given[k] = values[k];
        }
        try {
            Method method = GooseShares.class.getMethod(face.name, types);
            return (Integer) method.invoke(x, given);
        } catch (ReflectiveOperationException e) {
            throw new IllegalStateException(face.name + Arrays.toString(values), e);
        }
    }

    private static void oneTwice() {
        Place hall = PLACES[3];
        for (int member = 0; member < 3; member++) {
            int twice = member;
            Edge.refused("rests of one twice", hall.make, x -> x.rests(twice, twice), -2);
            Edge.refused("has of one twice", hall.make, x -> x.has(twice, twice, 0, 1), -1000);
        }
        // Of flights one twice is fine.
        Check.due("meets of one twice", hall.make.made().meets(1, 1), 0);
    }
}
