import java.lang.reflect.InvocationTargetException;
import java.lang.reflect.Method;
import java.lang.reflect.Modifier;
import java.util.ArrayList;
import java.util.Arrays;
import java.util.Comparator;
import java.util.List;
import java.util.Random;

/** Random texts and calls, each answered by WillHouse as by the Mirror. */
final class MirrorTest {
    private static final int HOUSES = 2500;
    private static final int CALLS = 480;
    // what later calls answer is free
    private static final int MOST_CALLS = 512;
    private static final String[] NAMES = {"a", "b", "c", "d", "e", "f", "g", "h", "i", "j", "k", "l", "m", "tor", "abcdef"};
    private static final int[] EDGES = {-2, -1, 0, 1, 2, 3, 4, 5, 6, 7, 8, 11, 12, 13, 14, 15, 99, 100, 240, 241, 9999,
        10000, 99999, 100000, Integer.MAX_VALUE, Integer.MIN_VALUE};

    private final Random random;
    private final WillHouse house = new WillHouse();
    private final Mirror mirror = new Mirror();
    private final List<String> calls = new ArrayList<>();
    private int made;
    private boolean differed;

    private MirrorTest(long seed) {
        random = new Random(seed);
    }

    public static void main(String[] args) throws ReflectiveOperationException {
        int houses = args.length > 0 ? Integer.parseInt(args[0]) : HOUSES;
        long first = args.length > 1 ? Long.parseLong(args[1]) : 1;
        int differing = 0;
        for (int i = 0; i < houses && differing < 5; i++) {
            MirrorTest run = new MirrorTest(first + i);
            run.run();
            differing += run.differed ? 1 : 0;
        }
        Checks.same("houses that differ from the mirror", differing, 0);
        Checks.close("MirrorTest");
    }

    private static Method[] face() {
        return Arrays.stream(WillHouse.class.getDeclaredMethods()).filter(m -> Modifier.isPublic(m.getModifiers()))
                .sorted(Comparator.comparing(Method::getName)).toArray(Method[]::new);
    }

    private void run() throws ReflectiveOperationException {
        Method[] face = face();
        for (int text = 0; text < 3 && !differed; text++) {
            readText();
            for (int i = 0; i < CALLS / 3 && !differed; i++) {
                Method method = face[random.nextInt(face.length)];
                boolean unused = List.of("feed", "end", "read").contains(method.getName());
                // most acts change little, so that houses do not run empty
                boolean rare = List.of("die", "lose", "sell", "renounce").contains(method.getName());
                if (!unused && (!rare || random.nextInt(3) == 0)) {
                    call(method, arguments(method));
                }
            }
        }
    }

    private void call(Method method, Object... arguments) throws ReflectiveOperationException {
        if (made == MOST_CALLS) {
            return;
        }
        made++;
        Method other = Mirror.class.getDeclaredMethod(method.getName(), method.getParameterTypes());
        String got = outcome(house, method, arguments);
        String due = outcome(mirror, other, arguments);
        calls.add(method.getName() + Arrays.toString(arguments) + " -> " + due);
        if (!got.equals(due)) {
            differed = true;
            System.out.println("the house answers " + got + " to the last of:\n  " + String.join("\n  ", calls));
        }
    }

    private static String outcome(Object on, Method method, Object... arguments) throws IllegalAccessException {
        try {
            return String.valueOf(method.invoke(on, arguments));
        } catch (InvocationTargetException thrown) {
            return "throws " + thrown.getCause().getClass().getName();
        }
    }

    private Object[] arguments(Method method) {
        Class<?>[] types = method.getParameterTypes();
        Object[] arguments = new Object[types.length];
        for (int i = 0; i < types.length; i++) {
            arguments[i] = types[i] == boolean.class ? (Object) random.nextBoolean() : (Object) number(method.getName(), i);
        }
        return arguments;
    }

    private int number(String method, int i) {
        if (random.nextInt(12) == 0) {
            return EDGES[random.nextInt(EDGES.length)];
        }
        boolean amount = List.of("sell", "change", "lose", "set", "ifDebt").contains(method) && i > 0
                || method.equals("ifSold") && i > 1;
        if (amount) {
            return random.nextInt(random.nextBoolean() ? 30 : 300);
        }
        return random.nextInt(random.nextBoolean() ? 4 : 12);
    }

    // ---- texts

    private void readText() throws ReflectiveOperationException {
        String text = text();
        byte[] bytes = text.getBytes(java.nio.charset.StandardCharsets.ISO_8859_1);
        byte[] filled = Arrays.copyOf(bytes, (bytes.length + 19) / 20 * 20);
        java.nio.IntBuffer numbers = java.nio.ByteBuffer.wrap(filled).asIntBuffer();
        Method feed = WillHouse.class.getMethod("feed", int.class, int.class, int.class, int.class, int.class);
        while (numbers.hasRemaining()) {
            call(feed, numbers.get(), numbers.get(), numbers.get(), numbers.get(), numbers.get());
        }
        call(WillHouse.class.getMethod("end", int.class), bytes.length);
        calls.add(text);
        call(WillHouse.class.getMethod("read"));
        call(WillHouse.class.getMethod("fault"));
    }

    private String text() {
        StringBuilder text = new StringBuilder();
        List<String> things = new ArrayList<>();
        List<String> persons = new ArrayList<>();
        List<String> givable = new ArrayList<>();
        List<String> held = new ArrayList<>();
        int lines = random.nextInt(40);
        int most = random.nextBoolean() ? 20 : 300;
        for (int i = 0; i < lines; i++) {
            String line = line(i < 8 ? random.nextInt(8) : random.nextInt(26), most, things, persons, givable, held);
            if (text.length() + line.length() <= 400) {
                text.append(line);
            } else {
                break;
            }
        }
        return random.nextInt(4) == 0 ? spoiled(text.toString()) : text.toString();
    }

    private String any(List<String> names) {
        return names.get(random.nextInt(names.size()));
    }

    private String line(int kind, int most, List<String> things, List<String> persons, List<String> givable, List<String> held) {
        String free = NAMES[random.nextInt(NAMES.length)];
        int n = 1 + random.nextInt(most);
        boolean noPerson = persons.isEmpty();
        switch (kind) {
            case 0: case 1:
                if (things.contains(free) || things.size() >= 8) {
                    return "";
                }
                things.add(free);
                givable.add(free);
                held.add(free);
                return "thing " + free + " " + n + ";";
            case 2: case 3: case 4: case 5: case 6:
                if (persons.contains(free) || persons.size() >= 12) {
                    return "";
                }
                String line = kind == 2 || noPerson ? "child " + free + ";"
                        : kind == 3 ? "friend " + free + ";" : "issue " + free + " of " + any(persons) + ";";
                persons.add(free);
                return line;
            case 7:
                return "cash " + random.nextInt(3 * most) + ";";
            case 8:
                return "debt " + random.nextInt(2 * most) + ";";
            case 9:
                return random.nextBoolean() ? "months " + random.nextInt(241) + ";" : "rate " + random.nextInt(100) + ";";
            case 10: case 11: case 12:
                if (noPerson || givable.isEmpty()) {
                    return "";
                }
                String given = any(givable);
                givable.remove(given);
                things.remove(given);
                return "give " + given + " to " + any(persons) + ";";
            case 13: case 14: case 15:
                return noPerson ? "" : "sum " + n + " to " + any(persons) + rank();
            case 16: case 17: case 18:
                if (noPerson || things.isEmpty()) {
                    return "";
                }
                String fund = any(things);
                givable.remove(fund);
                return "from " + fund + " " + n + " to " + any(persons) + rank();
            case 19: case 20:
                return noPerson ? "" : "rest " + (1 + random.nextInt(9)) + " to " + any(persons) + ";";
            case 21:
                return noPerson || random.nextInt(3) == 0 ? "rule worth;" : "dead " + any(persons) + ";";
            default:
                if (held.isEmpty()) {
                    return "";
                }
                String thing = any(held);
                if (kind == 22) {
                    return "changed " + thing + " " + n + ";";
                }
                held.remove(thing);
                return kind == 23 ? "sold " + thing + " " + n + " owed " + random.nextInt(n + 1) + ";"
                        : "lost " + thing + " insured " + random.nextInt(n) + ";";
        }
    }

    private String rank() {
        return random.nextBoolean() ? ";" : " rank " + (1 + random.nextInt(4)) + ";";
    }

    private String spoiled(String text) {
        StringBuilder spoiled = new StringBuilder(text);
        int times = 1 + random.nextInt(2);
        String signs = "abcdt 0159;\n\t{`/:-\u00e8\u0000";
        for (int i = 0; i < times && spoiled.length() > 0; i++) {
            int at = random.nextInt(spoiled.length());
            char sign = signs.charAt(random.nextInt(signs.length()));
            switch (random.nextInt(4)) {
                case 0: spoiled.deleteCharAt(at); break;
                case 1: spoiled.setCharAt(at, sign); break;
                case 2: spoiled.setLength(at); break;
                default:
                    if (spoiled.length() < 400) {
                        spoiled.insert(at, sign);
                    }
            }
        }
        return spoiled.toString();
    }
}
