import java.lang.reflect.InvocationTargetException;
import java.lang.reflect.Method;
import java.util.ArrayList;
import java.util.Arrays;
import java.util.Comparator;
import java.util.List;
import java.util.Random;

/** Long runs of drawn calls, each asked of GooseShares and of the model; both must answer alike. */
public final class ModelTest {
    private static final int RUNS = 400;
    private static final int CALLS = 300;

    private final Random random;
    private final GooseShares x = new GooseShares();
    private final Model model = new Model();
    private final List<String> told = new ArrayList<>();

    private ModelTest(long seed) {
        random = new Random(seed);
    }

    public static void main(String[] args) throws ReflectiveOperationException {
        int runs = args.length > 0 ? Integer.parseInt(args[0]) : RUNS;
        long from = args.length > 1 ? Long.parseLong(args[1]) : 1;
        for (long seed = from; seed < from + runs; seed++) {
            new ModelTest(seed).run();
        }
        Check.finish();
    }

    private void run() throws ReflectiveOperationException {
        Method[] methods = GooseShares.class.getDeclaredMethods();
        methods = Arrays.stream(methods).filter(m -> java.lang.reflect.Modifier.isPublic(m.getModifiers()))
                .sorted(Comparator.comparing(Method::getName)).toArray(Method[]::new);
        Check.due("methods of the face", methods.length, 70);
        for (int i = 0; i < CALLS; i++) {
            if (random.nextInt(60) == 0 || i == 0) {
                tellLand();
            } else if (random.nextInt(12) == 0) {
                tellRow();
            } else {
                Method m = methods[random.nextInt(methods.length)];
                if (m.getName().equals("land") || m.getName().equals("feed") && random.nextInt(4) > 0) {
                    continue;
                }
                Object[] values = new Object[m.getParameterCount()];
                for (int k = 0; k < values.length; k++) {
                    int v = argument(m.getName(), k);
                    values[k] = m.getParameterTypes()[k] == long.class ? (Object) (long) v : (Object) v;
                }
                ask(m.getName(), values);
            }
        }
    }

    private void ask(String name, Object... values) throws ReflectiveOperationException {
        Class<?>[] types = new Class<?>[values.length];
        for (int i = 0; i < types.length; i++) {
            types[i] = values[i] instanceof Long ? long.class : int.class;
        }
        told.add(name + Arrays.toString(values));
        int got = answer(x, name, types, values);
        int want = answer(model, name, types, values);
        if (got != want) {
            System.out.println(String.join("\n", told));
        }
        Check.due(name + Arrays.toString(values), got, want);
    }

    private static int answer(Object of, String name, Class<?>[] types, Object[] values) throws ReflectiveOperationException {
        try {
            return (Integer) of.getClass().getMethod(name, types).invoke(of, values);
        } catch (InvocationTargetException e) {
            throw new IllegalStateException(name + Arrays.toString(values), e.getCause());
        }
    }

    private int argument(String name, int k) {
        if (random.nextInt(150) == 0) {
            return new int[] {Integer.MIN_VALUE, Integer.MAX_VALUE, -1, 41, 64, 20}[random.nextInt(6)];
        }
        boolean step = k == 1 && (name.equals("at") || name.equals("heads") || name.equals("geese")) || name.equals("calls");
        if (step) {
            return random.nextInt(3) == 0 ? random.nextInt(43) - 1 : random.nextInt(8);
        }
        switch (name) {
            case "over": case "ears": return random.nextInt(16);
            case "geese": return random.nextInt(12);
            case "light": return k == 0 ? random.nextInt(14) : random.nextInt(2);
            case "turn": return k == 0 ? random.nextInt(4) : random.nextInt(4);
            case "fewest": case "lights": return random.nextInt(4) == 0 ? random.nextInt(66) : 1 << random.nextInt(3);
            case "drawn": case "luck":
                return k == 0 ? random.nextInt(2000000000) : name.equals("drawn") ? random.nextInt(2)
                        : k == 1 ? 1 + random.nextInt(20) : random.nextInt(4);
            case "price": return random.nextInt(150);
            case "rate": return k == 0 ? random.nextInt(4) : random.nextInt(101);
            case "count": return random.nextInt(13);
            case "end": return random.nextInt(4) == 0 ? 0 : 100000;
            case "feed": return random.nextInt();
            case "row": return k == 2 ? random.nextInt(8) : random.nextInt(4);
            case "has": return k < 2 ? random.nextInt(4) : random.nextInt(2);
            case "chance": case "cut": case "mean": return k == 0 && !name.equals("mean") ? random.nextInt(4) : random.nextInt(2);
            case "flown": return k == 0 ? random.nextInt(5) : random.nextInt(2);
            case "odds": return k == 1 ? random.nextInt(4) : random.nextInt(2);
            case "laws": case "ask": case "began": case "spots": case "who": case "leaves": return random.nextInt(5) == 0 ? random.nextInt(5) : name.length() < 4 && !name.equals("who") || name.equals("laws") ? 0 : 1;
            default: return random.nextInt(5);
        }
    }

    /** Rows that can be asked about are rare among drawn writes, so they are told whole: sights in 0, reports in 1. */
    private void tellRow() throws ReflectiveOperationException {
        int slot = random.nextInt(2);
        int each = slot == 0 ? 3 : 2;
        int many = random.nextInt(4);
        ask("row", slot, random.nextInt(4), each * many);
        for (int i = 0; i < many; i++) {
            int who = random.nextInt(3);
            int step = random.nextInt(6);
            ask("write", slot, each * i, (long) who);
            ask("write", slot, each * i + 1, (long) (slot == 0 ? step : random.nextInt(20) == 0 ? 2 : random.nextInt(2)));
            if (slot == 0) {
                int cell = random.nextInt(3) == 0 ? random.nextInt(12) - 1 : Math.max(-1, model.at(who, step));
                ask("write", slot, each * i + 2, (long) cell);
            }
        }
    }

    private void tellLand() throws ReflectiveOperationException {
        String text = drawLand();
        int wounds = random.nextInt(4) == 0 ? 1 + random.nextInt(2) : 0;
        for (int i = 0; i < wounds; i++) {
            text = wound(text);
        }
        ask("end", 0);
        byte[] bytes = text.getBytes(java.nio.charset.StandardCharsets.ISO_8859_1);
        for (int from = 0; from < bytes.length; from += 20) {
            ask("feed", Check.four(bytes, from), Check.four(bytes, from + 4), Check.four(bytes, from + 8),
                    Check.four(bytes, from + 12), Check.four(bytes, from + 16));
        }
        ask("end", bytes.length);
        told.add(text);
        ask("land");
        ask("fault", 0);
        ask("fault", 1);
        ask("count", 10);
    }

    private String drawLand() {
        int wide = 1 + random.nextInt(5);
        int high = 1 + random.nextInt(4);
        StringBuilder b = new StringBuilder();
        b.append("land wide " + wide + " high " + high + " law " + random.nextInt(4) + " ear " + random.nextInt(random.nextInt(2) == 0 ? 3 : 9)
                + " odds " + random.nextInt(11) + gap(";") + gap(""));
        int flights = random.nextInt(6) == 0 ? random.nextInt(6) : 2 + random.nextInt(3);
        int members = random.nextInt(6) == 0 ? random.nextInt(8) : 2 + random.nextInt(4);
        int lamps = random.nextInt(7);
        int cells = wide * high;
        while (flights + members + lamps > 0) {
            int kind = random.nextInt(flights + members + lamps);
            if (kind < flights) {
                flights--;
                b.append("flight at " + random.nextInt(cells) + " heads " + random.nextInt(4) + " geese " + (1 + random.nextInt(20)));
            } else if (kind < flights + members) {
                members--;
                int wants = random.nextInt(4) == 0 ? 0 : random.nextInt(random.nextInt(2) == 0 ? 30 : 100);
                b.append("member at " + random.nextInt(cells) + " wants " + wants + " pays " + random.nextInt(random.nextInt(2) == 0 ? 12 : 100));
            } else {
                lamps--;
                b.append("lamp at " + random.nextInt(cells));
            }
            b.append(gap(";") + gap(""));
        }
        return b.length() > 780 ? b.substring(0, 780) : b.toString();
    }

    private String gap(String sign) {
        return new String[] {"", "", " ", "\n", " \n"}[random.nextInt(5)] + sign;
    }

    private String wound(String text) {
        int p = random.nextInt(text.length() + 1);
        String[] bits = {"", " ", ";", "9", "00", "x", "A", "\t", "\u00e9", "\0", "land ", "flight ", "member at 0", "-1"};
        int until = Math.min(text.length(), p + random.nextInt(3));
        return random.nextInt(8) == 0 ? text.substring(0, p) : text.substring(0, p) + bits[random.nextInt(bits.length)] + text.substring(until);
    }
}
