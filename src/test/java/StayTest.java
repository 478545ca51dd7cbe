import java.lang.reflect.Method;
import java.lang.reflect.Modifier;
import java.util.Arrays;
import java.util.Set;

/** Every call with numbers of all sorts: none fails, none that only asks changes anything, none that is refused does. */
public final class StayTest {
    private static final Set<String> CHANGING = Set.of("feed", "end", "land", "light", "turn", "undo", "anew", "rate", "image",
            "back", "row", "write", "paste");
    private static final int[] ALL = {Integer.MIN_VALUE, -2, -1, 0, 1, 2, 3, 4, 6, 20, 40, 41, 60, 61, 99, 100, 2000000000, Integer.MAX_VALUE};
    private static final int[] SOME = {Integer.MIN_VALUE, -1, 0, 1, 3, 61, Integer.MAX_VALUE};
    private static final int[] FEW = {-1, 0, 2, Integer.MAX_VALUE};

    public static void main(String[] args) {
        Edge.Make[] makes = {GooseShares::new, Edge::rich, StayTest::manyActs, StayTest::fullTape};
        String[] looks = new String[makes.length];
        for (int i = 0; i < makes.length; i++) {
            looks[i] = Edge.looks(makes[i].made());
        }
        for (Method method : GooseShares.class.getDeclaredMethods()) {
            if (Modifier.isPublic(method.getModifiers())) {
                for (int i = 0; i < makes.length; i++) {
                    askAll(method, makes[i], looks[i]);
                }
            }
        }
        Check.finish();
    }

    private static GooseShares manyActs() {
        GooseShares x = Edge.rich();
        for (int i = 0; i < 37; i++) {
            x.light(i % 6, i % 2);
        }
        Check.due("forty acts", x.count(8), 40);
        return x;
    }

    private static GooseShares fullTape() {
        GooseShares x = Edge.rich();
        Check.tape(x, "land wide 2 high 2 law 3 ear 4 odds 5;" + " ".repeat(762));
        return x;
    }

    private static void askAll(Method method, Edge.Make make, String before) {
        int many = method.getParameterCount();
        int[] from = many < 3 ? ALL : many == 3 ? SOME : FEW;
        int calls = 1;
        for (int k = 0; k < many; k++) {
            calls *= from.length;
        }
        for (int call = 0; call < calls; call++) {
            Object[] values = new Object[many];
            int rest = call;
            for (int k = 0; k < many; k++) {
                int value = from[rest % from.length];
                rest /= from.length;
                values[k] = method.getParameterTypes()[k] == long.class ? (Object) (long) value : (Object) value;
            }
            ask(method, make, before, values);
        }
    }

    private static void ask(Method method, Edge.Make make, String before, Object[] values) {
        GooseShares x = make.made();
        String call = method.getName() + Arrays.toString(values);
        int answer;
        try {
            answer = (Integer) method.invoke(x, values);
        } catch (ReflectiveOperationException e) {
            Check.due(call + " failed by " + e.getCause(), 1, 0);
            return;
        }
        if (answer < 0 || !CHANGING.contains(method.getName())) {
            Edge.stays(call, Edge.looks(x), before);
        }
    }
}
