import java.lang.reflect.Method;
import java.lang.reflect.Modifier;
import java.util.ArrayList;
import java.util.Arrays;
import java.util.Collections;
import java.util.Comparator;
import java.util.List;
import java.util.Random;
import java.util.Set;

/** What is asked is answered alike whether it is the first call, or behind any others, or behind another land and its calls. */
public final class AloneTest {
    private static final Set<String> CHANGING = Set.of("feed", "end", "land", "light", "turn", "undo", "anew", "rate", "image",
            "back", "row", "write", "paste");
    /** Of one object, so that it has fewer than 512 with those that make it. */
    private static final int CALLS = 250;

    private static final String WIDE = Edge.head(5, 4, 1, 8, 9) + Edge.flight(7, 1, 20) + Edge.flight(8, 2, 19) + Edge.flight(9, 3, 18)
            + Edge.flight(10, 0, 17) + Edge.member(0, 1, 99).repeat(5) + Edge.member(19, 2, 98) + Edge.lamps(6, 8, 11, 13);
    private static final String[] LANDS = {
        Edge.HALL,
        Edge.head(3, 3, 0, 0, 5) + Edge.flight(0, 1, 2) + Edge.member(6, 2, 9) + Edge.member(2, 2, 4) + Edge.member(3, 2, 6),
        Edge.head(4, 1, 0, 0, 3) + Edge.flight(1, 1, 3) + Edge.flight(0, 1, 1) + Edge.member(0, 3, 5) + Edge.member(2, 1, 7),
        Edge.head(4, 1, 2, 1, 3) + Edge.flight(0, 1, 1) + Edge.member(3, 3, 6) + Edge.member(1, 2, 6) + Edge.lamps(2),
        Edge.head(5, 4, 3, 2, 1) + Edge.flight(12, 0, 3) + Edge.flight(2, 2, 4) + Edge.member(12, 5, 9) + Edge.member(17, 9, 3)
                + Edge.member(4, 7, 8) + Edge.lamps(7, 11)};

    private record Call(Method method, Object[] values) {
        int of(GooseShares x) {
            try {
                return (Integer) method.invoke(x, values);
            } catch (ReflectiveOperationException e) {
                throw new IllegalStateException(toString(), e);
            }
        }

        @Override
        public String toString() {
            return method.getName() + Arrays.toString(values);
        }
    }

    public static void main(String[] args) {
        List<Call> calls = calls();
        for (String land : LANDS) {
            int[] alone = new int[calls.size()];
            for (int i = 0; i < alone.length; i++) {
                alone[i] = calls.get(i).of(made(land));
            }
            for (int order = 0; order < 6; order++) {
                List<Integer> places = new ArrayList<>();
                for (int i = 0; i < alone.length; i++) {
                    places.add(i);
                }
                if (order == 1) {
                    Collections.reverse(places);
                } else if (order > 1) {
                    Collections.shuffle(places, new Random(order));
                }
                behindOthers(land, calls, alone, places, order % 2 == 1);
            }
        }
        Check.finish();
    }

    private static void behindOthers(String land, List<Call> calls, int[] alone, List<Integer> places, boolean elsewhere) {
        GooseShares x = null;
        for (int i = 0; i < places.size(); i++) {
            if (i % CALLS == 0) {
                x = elsewhere ? behindAnother(land, calls, places) : made(land);
            }
            Call call = calls.get(places.get(i));
            Check.due(call + " behind others", call.of(x), alone[places.get(i)]);
        }
    }

    private static GooseShares made(String land) {
        return told(new GooseShares(), land);
    }

    private static GooseShares told(GooseShares x, String land) {
        Check.land(x, land);
        Check.row(x, 0, 0, 0, 0, x.flight(0, 0));
        Check.row(x, 1, 0, 0, 1);
        return x;
    }

    /** Another land was there, and something was asked and done in it. */
    private static GooseShares behindAnother(String land, List<Call> calls, List<Integer> places) {
        GooseShares x = told(new GooseShares(), WIDE);
        for (int i = 0; i < 100; i++) {
            calls.get(places.get(places.size() - 1 - i)).of(x);
        }
        x.homes();
        x.swaps();
        x.best(3);
        x.began(1);
        x.turn(0, 0);
        x.light(19, 1);
        return told(x, land);
    }

    private static List<Call> calls() {
        List<Call> calls = new ArrayList<>();
        Method[] methods = GooseShares.class.getDeclaredMethods();
        Arrays.sort(methods, Comparator.comparing(Method::getName));
        for (Method method : methods) {
            if (Modifier.isPublic(method.getModifiers()) && !CHANGING.contains(method.getName())) {
                int many = method.getParameterCount();
                int each = many == 1 ? 8 : many == 2 ? 3 : 2;
                for (int i = 0; i < Math.pow(each, many); i++) {
                    Object[] values = new Object[many];
                    int rest = i;
                    for (int k = 0; k < many; k++) {
                        values[k] = rest % each + (method.getName().equals("luck") && k == 1 ? 1 : 0);
                        rest /= each;
                    }
                    calls.add(new Call(method, values));
                }
            }
        }
        return calls;
    }
}
