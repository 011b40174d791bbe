import java.nio.charset.StandardCharsets;
import java.util.Arrays;
import java.util.function.IntConsumer;
import java.util.function.IntUnaryOperator;

/** What all tests share: houses made of texts, and counted checks. */
final class Checks {
    private static int passed;
    private static int failed;

    private Checks() {
    }

    static void same(String what, long got, long due) {
        if (got == due) {
            passed++;
        } else {
            failed++;
            System.out.println(what + " answered " + got + ", due is " + due);
        }
    }

    static void same(String what, String got, String due) {
        if (due.equals(got)) {
            passed++;
        } else {
            failed++;
            System.out.println(what + " answered \"" + got + "\", due is \"" + due + "\"");
        }
    }

    static void yes(String what, boolean got) {
        same(what, got ? 1 : 0, 1);
    }

    static void no(String what, boolean got) {
        same(what, got ? 1 : 0, 0);
    }

    static void fails(String what, Class<? extends RuntimeException> due, Runnable call) {
        String got = "nothing";
        try {
            call.run();
        } catch (RuntimeException thrown) {
            got = thrown.getClass().getName();
        }
        same(what + " throws", got, due.getName());
    }

    static void noIndex(String what, Runnable call) {
        fails(what, IndexOutOfBoundsException.class, call);
    }

    static void noElement(String what, Runnable call) {
        fails(what, java.util.NoSuchElementException.class, call);
    }

    static void noArgument(String what, Runnable call) {
        fails(what, IllegalArgumentException.class, call);
    }

    static void noState(String what, Runnable call) {
        fails(what, IllegalStateException.class, call);
    }

    /** Feeds a text, the twenty bytes filled up by zeros, and cuts the TAPE behind it. */
    static void feed(WillHouse house, String text) {
        byte[] bytes = text.getBytes(StandardCharsets.ISO_8859_1);
        int length = bytes.length;
        bytes = Arrays.copyOf(bytes, (length + 19) / 20 * 20);
        int[] fours = new int[5];
        for (int at = 0; at < bytes.length; at += 20) {
            for (int i = 0; i < 5; i++) {
                fours[i] = 0;
                for (int k = 0; k < 4; k++) {
                    fours[i] = fours[i] << 8 | bytes[at + 4 * i + k] & 255;
                }
            }
            house.feed(fours[0], fours[1], fours[2], fours[3], fours[4]);
        }
        if (!house.end(length)) {
            throw new IllegalStateException("the tape is not empty ahead of the text, or the text is too long");
        }
    }

    static WillHouse house(String... lines) {
        WillHouse house = new WillHouse();
        feed(house, String.join("", lines));
        house.read();
        return house;
    }

    /** A text is wrong where the mark ^ stands in it. */
    static void wrongAt(String marked) {
        String text = marked.replace("^", "");
        WillHouse house = new WillHouse();
        feed(house, text);
        noArgument("read of " + marked, house::read);
        same("fault of " + marked, house.fault(), marked.indexOf('^'));
    }

    static void right(String text) {
        WillHouse house = new WillHouse();
        feed(house, text);
        String got = "nothing";
        try {
            house.read();
        } catch (RuntimeException thrown) {
            got = thrown.getClass().getName();
        }
        same("read of " + text + " throws", got, "nothing");
        same("fault of " + text, house.fault(), WillHouse.NONE);
    }

    static String written(WillHouse house, int person) {
        int length = house.write(person);
        same("bytes written", house.count(13), length);
        return octets(house);
    }

    static String octets(WillHouse house) {
        StringBuilder text = new StringBuilder();
        for (int k = 0; k < 1000 && house.octet(k) != WillHouse.NONE; k++) {
            text.append((char) house.octet(k));
        }
        return text.toString();
    }

    /** A line for each of the first names a, b, c .., which stand for # in it. */
    static String each(String line, int times) {
        StringBuilder lines = new StringBuilder();
        for (int i = 0; i < times; i++) {
            lines.append(line.replace('#', (char) ('a' + i)));
        }
        return lines.toString();
    }

    /** All numbers that are none of 0 to the last: next to them, and far away. */
    static int[] outside(int last) {
        return new int[] {-1, last + 1, -2, last + 2, 1 << 16, 1 << 30, Integer.MAX_VALUE, Integer.MIN_VALUE};
    }

    static void noIndexOutside(String what, int last, IntConsumer call) {
        for (int i : outside(last)) {
            noIndex(what + " " + i, () -> call.accept(i));
        }
    }

    static void noElementOutside(String what, int last, IntConsumer call) {
        for (int i : outside(last)) {
            noElement(what + " " + i, () -> call.accept(i));
        }
    }

    static void noArgumentOutside(String what, int last, IntConsumer call) {
        for (int i : outside(last)) {
            noArgument(what + " " + i, () -> call.accept(i));
        }
    }

    static void noneOutside(String what, int last, IntUnaryOperator call) {
        for (int i : outside(last)) {
            same(what + " " + i, call.applyAsInt(i), WillHouse.NONE);
        }
    }

    /** Each answer of a row of them, told by its number. */
    static void row(String what, IntUnaryOperator call, int... due) {
        for (int i = 0; i < due.length; i++) {
            same(what + " " + i, call.applyAsInt(i), due[i]);
        }
    }

    static int made() {
        return passed + failed;
    }

    static int failed() {
        return failed;
    }

    static void close(String test) {
        System.out.println(test + ": " + passed + " checks are as due, " + failed + " are not");
        if (failed > 0) {
            System.exit(1);
        }
    }
}
