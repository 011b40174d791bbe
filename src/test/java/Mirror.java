import java.io.ByteArrayOutputStream;
import java.math.BigInteger;
import java.util.ArrayDeque;
import java.util.ArrayList;
import java.util.Arrays;
import java.util.Comparator;
import java.util.Deque;
import java.util.List;
import java.util.Map;
import java.util.NoSuchElementException;
import java.util.TreeMap;
import java.util.regex.Matcher;
import java.util.regex.Pattern;

/** The document told a second time, by other means (lists, recursion, search), to compare WillHouse with. */
final class Mirror {
    private static final int NONE = -1;

    static final class Thing {
        String name;
        int worth;
        char state = 'h';
        int price = NONE;
        int later;

        int brings() {
            return state == 'h' ? worth : later;
        }

        Thing copy() {
            Thing c = new Thing();
            c.name = name;
            c.worth = worth;
            c.state = state;
            c.price = price;
            c.later = later;
            return c;
        }
    }

    static final class Person {
        String name;
        boolean child;
        boolean dead;
        Person parent;
        List<Person> issue = new ArrayList<>();

        boolean kin() {
            return child || parent != null && parent.kin();
        }

        List<Person> stock() {
            if (!dead) {
                return List.of(this);
            }
            List<Person> all = new ArrayList<>();
            for (Person p : issue) {
                all.addAll(p.stock());
            }
            return all;
        }
    }

    static final class Gift {
        int kind;
        int person;
        int thing = NONE;
        int amount = NONE;
        int rank = NONE;
        boolean renounced;

        Gift copy() {
            Gift c = new Gift();
            c.kind = kind;
            c.person = person;
            c.thing = thing;
            c.amount = amount;
            c.rank = rank;
            c.renounced = renounced;
            return c;
        }
    }

    /** All that a text tells and acts change. */
    static final class World {
        List<Thing> things = new ArrayList<>();
        List<Person> persons = new ArrayList<>();
        List<Gift> gifts = new ArrayList<>();
        int[] told = {0, 0, 0, 5, 0};

        World copy() {
            World w = new World();
            for (Thing t : things) {
                w.things.add(t.copy());
            }
            for (Person p : persons) {
                Person c = new Person();
                c.name = p.name;
                c.child = p.child;
                c.dead = p.dead;
                if (p.parent != null) {
                    c.parent = w.persons.get(persons.indexOf(p.parent));
                    c.parent.issue.add(c);
                }
                w.persons.add(c);
            }
            for (Gift g : gifts) {
                w.gifts.add(g.copy());
            }
            w.told = told.clone();
            return w;
        }
    }

    /** Who gets what in a world. */
    static final class Outcome {
        final World w;
        final int[][] due;
        final int[][] gets;
        final Map<Person, Integer> intestateShares = new java.util.IdentityHashMap<>();
        final List<Map<Person, Integer>> takes = new ArrayList<>();
        int estate;
        int available;
        int theRest;
        int intestate;
        int bona;
        int cut = NONE;

        Outcome(World w) {
            this.w = w;
            due = new int[w.gifts.size()][7];
            gets = new int[w.gifts.size()][7];
            estate = w.told[0] + w.things.stream().mapToInt(Thing::brings).sum();
            available = Math.max(0, estate - w.told[1]);
            for (int g = 0; g < w.gifts.size(); g++) {
                duesOf(g);
            }
            int money = available;
            for (int c = 0; c <= 4; c++) {
                money -= pay(c, money);
            }
            for (int g = 0; g < w.gifts.size(); g++) {
                long got = 0;
                for (int c = 1; c <= 4; c++) {
                    got += gets[g][c];
                }
                due[g][5] = BigInteger.valueOf(got).multiply(BigInteger.valueOf(w.told[3]))
                        .multiply(BigInteger.valueOf(Math.max(0, w.told[2] - 12)))
                        .divide(BigInteger.valueOf(1200)).intValue();
            }
            money -= pay(5, money);
            theRest = money;
            parting();
            for (int g = 0; g < w.gifts.size(); g++) {
                Map<Person, Integer> row = new java.util.IdentityHashMap<>();
                for (int c = 0; c <= 6; c++) {
                    pass(w.persons.get(w.gifts.get(g).person), gets[g][c], row);
                }
                takes.add(row);
            }
        }

        boolean lapses(int g) {
            Gift gift = w.gifts.get(g);
            Person p = w.persons.get(gift.person);
            return gift.renounced || p.dead && !p.kin() || p.stock().isEmpty();
        }

        int fundLeftAhead(int thing, int before) {
            int left = w.things.get(thing).brings();
            for (int g = 0; g < before; g++) {
                Gift other = w.gifts.get(g);
                if (other.kind == 2 && other.thing == thing && !lapses(g)) {
                    left = Math.max(0, left - other.amount);
                }
            }
            return left;
        }

        private void duesOf(int g) {
            Gift gift = w.gifts.get(g);
            if (lapses(g)) {
                return;
            }
            switch (gift.kind) {
                case 0 -> {
                    Thing t = w.things.get(gift.thing);
                    due[g][0] = t.brings();
                    if (w.told[4] == 1 && t.state != 'h') {
                        due[g][4] = Math.max(0, t.worth - t.brings());
                    }
                }
                case 1 -> due[g][gift.rank] = gift.amount;
                case 2 -> {
                    due[g][0] = Math.min(gift.amount, fundLeftAhead(gift.thing, g));
                    due[g][gift.rank] = gift.amount - due[g][0];
                }
                default -> { }
            }
        }

        private int pay(int c, int money) {
            int[] claims = Arrays.stream(due).mapToInt(row -> row[c]).toArray();
            int all = Arrays.stream(claims).sum();
            int[] got = claims;
            if (all > money) {
                cut = cut == NONE ? c : cut;
                got = partedByWeights(claims, money);
            }
            for (int g = 0; g < got.length; g++) {
                gets[g][c] = got[g];
            }
            return Arrays.stream(got).sum();
        }

        static int[] partedByWeights(int[] weights, int amount) {
            BigInteger all = BigInteger.valueOf(Arrays.stream(weights).asLongStream().sum());
            int[] parts = new int[weights.length];
            BigInteger[] rests = new BigInteger[weights.length];
            List<Integer> order = new ArrayList<>();
            int left = amount;
            for (int i = 0; i < weights.length; i++) {
                BigInteger[] qr = BigInteger.valueOf(weights[i]).multiply(BigInteger.valueOf(amount))
                        .divideAndRemainder(all);
                parts[i] = qr[0].intValue();
                rests[i] = qr[1];
                left -= parts[i];
                order.add(i);
            }
            order.sort(Comparator.comparing((Integer i) -> rests[i]).reversed().thenComparing(i -> i));
            for (int i = 0; i < left; i++) {
                parts[order.get(i)]++;
            }
            return parts;
        }

        private void parting() {
            int[] shares = new int[w.gifts.size()];
            for (int g = 0; g < shares.length; g++) {
                shares[g] = w.gifts.get(g).kind == 3 && !lapses(g) ? w.gifts.get(g).amount : 0;
            }
            if (Arrays.stream(shares).sum() > 0) {
                int[] parts = partedByWeights(shares, theRest);
                for (int g = 0; g < shares.length; g++) {
                    due[g][6] = parts[g];
                    gets[g][6] = parts[g];
                }
                return;
            }
            List<Person> heirs = heirs();
            if (heirs.isEmpty()) {
                bona = theRest;
            } else {
                intestate = theRest;
                share(heirs, theRest, intestateShares);
            }
        }

        List<Person> heirs() {
            return w.persons.stream().filter(p -> p.child && !p.stock().isEmpty()).toList();
        }

        private void share(List<Person> heads, int amount, Map<Person, Integer> row) {
            int n = heads.size();
            for (int i = 0; i < n; i++) {
                // the first ones get the rounded-up part
                pass(heads.get(i), (amount + n - 1 - i) / n, row);
            }
        }

        private void pass(Person head, int amount, Map<Person, Integer> row) {
            if (amount == 0) {
                return;
            }
            if (!head.dead) {
                row.merge(head, amount, Integer::sum);
            } else {
                share(head.issue.stream().filter(p -> !p.stock().isEmpty()).toList(), amount, row);
            }
        }

        int takenInAll(int person) {
            Person p = w.persons.get(person);
            int sum = intestateShares.getOrDefault(p, 0);
            for (Map<Person, Integer> row : takes) {
                sum += row.getOrDefault(p, 0);
            }
            return sum;
        }

        int sum(int[][] rows, int g, int from, int to) {
            int sum = 0;
            for (int c = from; c <= to; c++) {
                sum += rows[g][c];
            }
            return sum;
        }

        boolean paid(int c) {
            return Arrays.stream(due).mapToInt(row -> row[c]).sum() == Arrays.stream(gets).mapToInt(row -> row[c]).sum();
        }
    }

    private World w = new World();
    private final Deque<World> before = new ArrayDeque<>();
    private byte[] tape = new byte[0];
    private int fault = NONE;
    private String written = "";

    // ---- the text, by token patterns

    private static final Pattern TOKEN = Pattern.compile("[ \\n\\t]*(?:([a-z]+)|([0-9]+)|([^a-z0-9 \\n\\t]))", Pattern.DOTALL);
    private static final List<String> WORDS = List.of(("thing cash debt child friend issue of give to sum rank from rest"
            + " sold owed changed lost insured dead months rate rule worth").split(" "));
    private static final Map<String, String> FORMS = new TreeMap<>();

    static {
        FORMS.put("thing", "newthing 1-9999");
        FORMS.put("cash", "0-99999");
        FORMS.put("debt", "0-99999");
        FORMS.put("months", "0-240");
        FORMS.put("rate", "0-99");
        FORMS.put("rule", "'worth");
        FORMS.put("child", "newperson");
        FORMS.put("friend", "newperson");
        FORMS.put("issue", "newperson 'of person");
        FORMS.put("give", "givable 'to person");
        FORMS.put("sum", "1-9999 'to person rank?");
        FORMS.put("from", "fund 1-9999 'to person rank?");
        FORMS.put("rest", "1-9 'to person");
        FORMS.put("sold", "held 1-9999 'owed owed");
        FORMS.put("changed", "held 1-9999");
        FORMS.put("lost", "held 'insured 0-9999");
        FORMS.put("dead", "living");
    }

    private static final class Wrong extends Exception {
        private static final long serialVersionUID = 1;
        final int at;

        Wrong(int at) {
            this.at = at;
        }
    }

    private static final class Tokens {
        final List<String> texts = new ArrayList<>();
        final List<Integer> places = new ArrayList<>();
        int next;

        Tokens(String text) {
            Matcher m = TOKEN.matcher(text);
            int at = 0;
            while (m.find(at)) {
                int group = m.group(1) != null ? 1 : m.group(2) != null ? 2 : 3;
                texts.add(m.group(group));
                places.add(m.start(group));
                at = m.end();
            }
            texts.add("");
            places.add(text.length());
        }

        String peek() {
            return texts.get(next);
        }

        int place() {
            return places.get(next);
        }
    }

    private static World parse(String text) throws Wrong {
        World w = new World();
        Tokens tokens = new Tokens(text);
        while (!tokens.peek().isEmpty()) {
            String word = tokens.peek();
            String form = FORMS.get(word);
            int kind = List.of("give", "sum", "from", "rest").indexOf(word);
            boolean isPerson = List.of("child", "friend", "issue").contains(word);
            if (form == null || word.equals("thing") && w.things.size() == 8 || isPerson && w.persons.size() == 12
                    || kind >= 0 && w.gifts.size() == 12) {
                throw new Wrong(tokens.place());
            }
            tokens.next++;
            List<String> parts = new ArrayList<>();
            for (String want : form.split(" ")) {
                if (want.equals("rank?")) {
                    if (tokens.peek().equals("rank")) {
                        tokens.next++;
                        accept("1-4", tokens, w, parts);
                    } else {
                        parts.add("4");
                    }
                } else {
                    accept(want, tokens, w, parts);
                }
            }
            if (!tokens.peek().equals(";")) {
                throw new Wrong(tokens.place());
            }
            tokens.next++;
            apply(word, parts, w);
        }
        return w;
    }

    private static void accept(String want, Tokens tokens, World w, List<String> parts) throws Wrong {
        String token = tokens.peek();
        boolean fine;
        if (want.startsWith("'")) {
            fine = token.equals(want.substring(1));
        } else if (want.matches("\\d+-\\d+") || want.equals("owed")) {
            fine = token.matches("[0-9]{1,5}");
            if (fine) {
                int n = Integer.parseInt(token);
                if (want.equals("owed")) {
                    int price = Integer.parseInt(parts.get(1));
                    fine = n <= price && w.told[0] + price - n <= 99999;
                } else {
                    String[] ends = want.split("-");
                    fine = n >= Integer.parseInt(ends[0]) && n <= Integer.parseInt(ends[1]);
                }
            }
        } else {
            fine = token.matches("[a-z]{1,6}") && !WORDS.contains(token) && suits(want, token, w);
        }
        if (!fine) {
            throw new Wrong(tokens.place());
        }
        if (!want.startsWith("'")) {
            parts.add(token);
        }
        tokens.next++;
    }

    private static int thingNamed(World w, String name) {
        return w.things.stream().map(t -> t.name).toList().indexOf(name);
    }

    private static int personNamed(World w, String name) {
        return w.persons.stream().map(p -> p.name).toList().indexOf(name);
    }

    private static boolean suits(String want, String name, World w) {
        int t = thingNamed(w, name);
        int p = personNamed(w, name);
        return switch (want) {
            case "newthing" -> t < 0;
            case "newperson" -> p < 0;
            case "person" -> p >= 0;
            case "living" -> p >= 0 && !w.persons.get(p).dead;
            case "held" -> t >= 0 && w.things.get(t).state == 'h';
            case "givable" -> t >= 0 && w.gifts.stream().noneMatch(g -> g.thing == t);
            case "fund" -> t >= 0 && w.gifts.stream().noneMatch(g -> g.thing == t && g.kind == 0);
            default -> throw new AssertionError(want);
        };
    }

    private static void apply(String word, List<String> parts, World w) {
        switch (word) {
            case "thing" -> {
                Thing t = new Thing();
                t.name = parts.get(0);
                t.worth = Integer.parseInt(parts.get(1));
                w.things.add(t);
            }
            case "cash" -> w.told[0] = Integer.parseInt(parts.get(0));
            case "debt" -> w.told[1] = Integer.parseInt(parts.get(0));
            case "months" -> w.told[2] = Integer.parseInt(parts.get(0));
            case "rate" -> w.told[3] = Integer.parseInt(parts.get(0));
            case "rule" -> w.told[4] = 1;
            case "child", "friend", "issue" -> {
                Person p = new Person();
                p.name = parts.get(0);
                p.child = word.equals("child");
                if (word.equals("issue")) {
                    p.parent = w.persons.get(personNamed(w, parts.get(1)));
                    p.parent.issue.add(p);
                }
                w.persons.add(p);
            }
            case "give" -> gift(w, 0, parts.get(0), null, parts.get(1), null);
            case "sum" -> gift(w, 1, null, parts.get(0), parts.get(1), parts.get(2));
            case "from" -> gift(w, 2, parts.get(0), parts.get(1), parts.get(2), parts.get(3));
            case "rest" -> gift(w, 3, null, parts.get(0), parts.get(1), null);
            case "sold" -> sold(w, thingNamed(w, parts.get(0)), Integer.parseInt(parts.get(1)), Integer.parseInt(parts.get(2)));
            case "changed" -> w.things.get(thingNamed(w, parts.get(0))).worth = Integer.parseInt(parts.get(1));
            case "lost" -> lost(w, thingNamed(w, parts.get(0)), Integer.parseInt(parts.get(1)));
            case "dead" -> w.persons.get(personNamed(w, parts.get(0))).dead = true;
            default -> throw new AssertionError(word);
        }
    }

    private static void gift(World w, int kind, String thing, String amount, String person, String rank) {
        Gift g = new Gift();
        g.kind = kind;
        g.person = personNamed(w, person);
        g.thing = thing == null ? NONE : thingNamed(w, thing);
        g.amount = amount == null ? NONE : Integer.parseInt(amount);
        g.rank = rank == null ? NONE : Integer.parseInt(rank);
        w.gifts.add(g);
    }

    private static void sold(World w, int thing, int price, int owed) {
        Thing t = w.things.get(thing);
        t.state = 's';
        t.price = price;
        t.later = owed;
        w.told[0] += price - owed;
    }

    private static void lost(World w, int thing, int insured) {
        Thing t = w.things.get(thing);
        t.state = 'l';
        t.later = insured;
    }

    // ---- the face

    public int feed(int a, int b, int c, int d, int e) {
        if (tape.length + 20 > 400) {
            return NONE;
        }
        ByteArrayOutputStream out = new ByteArrayOutputStream();
        out.writeBytes(tape);
        for (int number : new int[] {a, b, c, d, e}) {
            out.writeBytes(java.nio.ByteBuffer.allocate(4).putInt(number).array());
        }
        tape = out.toByteArray();
        return tape.length;
    }

    public boolean end(int n) {
        if (n < 0 || n > tape.length) {
            return false;
        }
        tape = Arrays.copyOf(tape, n);
        return true;
    }

    public int read() {
        String text = new String(tape, java.nio.charset.StandardCharsets.ISO_8859_1);
        tape = new byte[0];
        try {
            w = parse(text);
        } catch (Wrong wrong) {
            fault = wrong.at;
            throw new IllegalArgumentException();
        }
        fault = NONE;
        before.clear();
        return w.gifts.size();
    }

    public int fault() {
        return fault;
    }

    public int name(boolean person, int i, int k) {
        String name = person ? personAt(i).name : thingAt(i).name;
        return k < 0 || k >= name.length() ? NONE : name.charAt(k);
    }

    public int thing(int thing, int what) {
        Thing t = thingAt(thing);
        return switch (what) {
            case 0 -> t.worth;
            case 1 -> "hsl".indexOf(t.state);
            case 2 -> t.price;
            case 3 -> t.state == 'h' ? NONE : t.later;
            case 4 -> t.brings();
            default -> throw new NoSuchElementException();
        };
    }

    public int person(int person, int what) {
        Person p = personAt(person);
        return switch (what) {
            case 0 -> w.persons.indexOf(p.parent);
            case 1 -> p.child ? 1 : 0;
            case 2 -> p.kin() ? 1 : 0;
            case 3 -> p.dead ? 1 : 0;
            case 4 -> p.stock().isEmpty() ? 1 : 0;
            case 5 -> p.stock().size();
            default -> throw new NoSuchElementException();
        };
    }

    public int gift(int gift, int what) {
        Gift g = giftAt(gift);
        return switch (what) {
            case 0 -> g.kind;
            case 1 -> g.person;
            case 2 -> g.thing;
            case 3 -> g.amount;
            case 4 -> g.rank;
            case 5 -> new Outcome(w).lapses(gift) ? 1 : 0;
            case 6 -> g.kind != 0 || w.things.get(g.thing).state == 'h' ? 0 : w.things.get(g.thing).later == 0 ? 2 : 1;
            default -> throw new NoSuchElementException();
        };
    }

    private void act() {
        before.addLast(w.copy());
        if (before.size() > 16) {
            before.removeFirst();
        }
    }

    private void checkSale(int thing, int price, int owed) {
        Thing t = thingAt(thing);
        argument(price >= 1 && price <= 9999 && owed >= 0 && owed <= price);
        state(t.state == 'h' && w.told[0] + price - owed <= 99999);
    }

    public int sell(int thing, int price, int owed) {
        checkSale(thing, price, owed);
        act();
        sold(w, thing, price, owed);
        return w.told[0];
    }

    public int change(int thing, int worth) {
        Thing t = thingAt(thing);
        argument(worth >= 1 && worth <= 9999);
        state(t.state == 'h');
        act();
        int old = t.worth;
        t.worth = worth;
        return old;
    }

    public int lose(int thing, int insured) {
        Thing t = thingAt(thing);
        argument(insured >= 0 && insured <= 9999);
        state(t.state == 'h');
        act();
        lost(w, thing, insured);
        return t.worth;
    }

    public int die(int person) {
        state(!personAt(person).dead);
        act();
        personAt(person).dead = true;
        return (int) w.persons.stream().filter(p -> !p.dead).count();
    }

    public boolean renounce(int gift, boolean is) {
        Gift g = giftAt(gift);
        act();
        boolean was = g.renounced;
        g.renounced = is;
        return was;
    }

    public int set(int what, int v) {
        if (what < 0 || what > 4) {
            throw new NoSuchElementException();
        }
        argument(v >= 0 && v <= List.of(99999, 99999, 240, 99, 1).get(what));
        act();
        int old = w.told[what];
        w.told[what] = v;
        return old;
    }

    public int undo() {
        if (before.isEmpty()) {
            return NONE;
        }
        w = before.removeLast();
        return before.size();
    }

    public int estate(int what) {
        Outcome o = new Outcome(w);
        return switch (what) {
            case 0 -> o.estate;
            case 1 -> o.available;
            case 2 -> Math.max(0, w.told[1] - o.estate);
            case 3 -> o.theRest;
            case 4 -> o.intestate;
            case 5 -> o.bona;
            case 6 -> {
                int sum = 0;
                for (int g = 0; g < w.gifts.size(); g++) {
                    sum += o.sum(o.gets, g, 0, 5);
                }
                yield sum;
            }
            case 7 -> o.cut;
            default -> throw new NoSuchElementException();
        };
    }

    public int due(int gift, int kind) {
        giftAt(gift);
        argument(kind >= 0 && kind <= 6);
        return new Outcome(w).due[gift][kind];
    }

    public int gets(int gift, int kind) {
        giftAt(gift);
        argument(kind >= NONE && kind <= 6);
        Outcome o = new Outcome(w);
        return kind == NONE ? o.sum(o.gets, gift, 0, 6) : o.gets[gift][kind];
    }

    public int classed(int kind, int what) {
        argument(kind >= 0 && kind <= 6);
        Outcome o = new Outcome(w);
        return switch (what) {
            case 0 -> Arrays.stream(o.due).mapToInt(row -> row[kind]).sum();
            case 1 -> Arrays.stream(o.gets).mapToInt(row -> row[kind]).sum();
            case 2 -> (int) Arrays.stream(o.due).filter(row -> row[kind] > 0).count();
            default -> throw new NoSuchElementException();
        };
    }

    public boolean itself(int gift) {
        Gift g = giftAt(gift);
        argument(g.kind == 0);
        Outcome o = new Outcome(w);
        return !o.lapses(gift) && w.things.get(g.thing).state == 'h' && o.paid(0);
    }

    /** By search: paid with the least debt, and not any more with the one found. */
    public int leastDebt(int kind) {
        argument(kind >= 0 && kind <= 4);
        if (Arrays.stream(new Outcome(w).due).allMatch(row -> row[kind] == 0)) {
            return NONE;
        }
        World trial = w.copy();
        int low = 0;
        int high = 400000;
        while (low < high) {
            int middle = (low + high) / 2;
            trial.told[1] = middle;
            if (new Outcome(trial).paid(kind)) {
                low = middle + 1;
            } else {
                high = middle;
            }
        }
        return low;
    }

    public int needed(int kind) {
        argument(kind >= 0 && kind <= 4);
        World trial = w.copy();
        int low = 0;
        int high = 100000;
        while (low < high) {
            int middle = (low + high) / 2;
            trial.told[0] = middle;
            Outcome o = new Outcome(trial);
            boolean all = true;
            for (int c = 0; c <= kind; c++) {
                all &= o.paid(c);
            }
            if (all) {
                high = middle;
            } else {
                low = middle + 1;
            }
        }
        return low > 99999 ? NONE : low;
    }

    public int part(int gift) {
        giftAt(gift);
        Outcome o = new Outcome(w);
        int due = o.sum(o.due, gift, 0, 4);
        return due == 0 ? NONE : (int) (1000L * o.sum(o.gets, gift, 0, 4) / due);
    }

    public int left(int thing) {
        thingAt(thing);
        return new Outcome(w).fundLeftAhead(thing, w.gifts.size());
    }

    public int takes(int gift, int person) {
        giftAt(gift);
        return new Outcome(w).takes.get(gift).getOrDefault(personAt(person), 0);
    }

    public int taken(int person, int what) {
        Person p = personAt(person);
        Outcome o = new Outcome(w);
        switch (what) {
            case 0:
                return o.takenInAll(person);
            case 1:
                return o.intestateShares.getOrDefault(p, 0);
            case 2:
                int sum = 0;
                for (int g = 0; g < w.gifts.size(); g++) {
                    sum += w.gifts.get(g).person == person ? 0 : o.takes.get(g).getOrDefault(p, 0);
                }
                return sum;
            default:
                throw new NoSuchElementException();
        }
    }

    private int at(List<Person> persons, int k) {
        return k < 0 || k >= persons.size() ? NONE : w.persons.indexOf(persons.get(k));
    }

    public int stock(int person, int k) {
        List<Person> living = new ArrayList<>(personAt(person).stock());
        living.sort(Comparator.comparing(w.persons::indexOf));
        return at(living, k);
    }

    public int heir(int k) {
        return at(new Outcome(w).heirs(), k);
    }

    public int ranked(int k) {
        Outcome o = new Outcome(w);
        List<Person> order = new ArrayList<>(w.persons);
        order.sort(Comparator.comparing((Person p) -> -o.takenInAll(w.persons.indexOf(p))));
        return at(order, k);
    }

    public int ifDead(int person, int other) {
        personAt(person);
        state(!personAt(other).dead);
        World trial = w.copy();
        trial.persons.get(other).dead = true;
        return new Outcome(trial).takenInAll(person);
    }

    public int ifSold(int person, int thing, int price, int owed) {
        personAt(person);
        checkSale(thing, price, owed);
        World trial = w.copy();
        sold(trial, thing, price, owed);
        return new Outcome(trial).takenInAll(person);
    }

    public int ifDebt(int person, int debt) {
        personAt(person);
        argument(debt >= 0 && debt <= 99999);
        World trial = w.copy();
        trial.told[1] = debt;
        return new Outcome(trial).takenInAll(person);
    }

    public int ifRenounced(int person, int gift) {
        personAt(person);
        giftAt(gift);
        World trial = w.copy();
        trial.gifts.get(gift).renounced = true;
        return new Outcome(trial).takenInAll(person);
    }

    public int ifHeld(int gift) {
        argument(giftAt(gift).kind == 0 || giftAt(gift).kind == 2);
        World trial = w.copy();
        trial.things.get(trial.gifts.get(gift).thing).state = 'h';
        Outcome o = new Outcome(trial);
        return o.sum(o.gets, gift, 0, 6);
    }

    public int envied(int person) {
        personAt(person);
        Map<Integer, Integer> would = new TreeMap<>();
        for (int other = 0; other < w.persons.size(); other++) {
            if (other != person && !w.persons.get(other).dead) {
                would.put(other, ifDead(person, other));
            }
        }
        int most = would.values().stream().mapToInt(v -> v).max().orElse(NONE);
        return would.keySet().stream().filter(other -> would.get(other) == most).findFirst().orElse(NONE);
    }

    public int write(int person) {
        Person p = personAt(person);
        Outcome o = new Outcome(w);
        List<String> parts = new ArrayList<>(List.of(p.name, "" + o.takenInAll(person)));
        if (p.dead) {
            parts.add("dead");
        }
        for (int g = 0; g < w.gifts.size(); g++) {
            if (o.takes.get(g).containsKey(p)) {
                parts.add(g + ":" + o.takes.get(g).get(p));
            }
        }
        if (o.intestateShares.containsKey(p)) {
            parts.add("i:" + o.intestateShares.get(p));
        }
        written = String.join(" ", parts);
        return written.length();
    }

    public int octet(int k) {
        return k < 0 || k >= written.length() ? NONE : written.charAt(k);
    }

    public int count(int what) {
        Outcome o = new Outcome(w);
        return switch (what) {
            case 0 -> w.things.size();
            case 1 -> w.persons.size();
            case 2 -> w.gifts.size();
            case 3, 4, 5, 6, 7 -> w.told[what - 3];
            case 8 -> (int) w.persons.stream().filter(p -> !p.dead).count();
            case 9 -> (int) w.things.stream().filter(t -> t.state == 'h').count();
            case 10 -> (int) java.util.stream.IntStream.range(0, w.gifts.size()).filter(o::lapses).count();
            case 11 -> o.heirs().size();
            case 12 -> before.size();
            case 13 -> written.length();
            case 14 -> (int) w.gifts.stream().filter(g -> g.renounced).count();
            default -> NONE;
        };
    }

    private Thing thingAt(int i) {
        return element(w.things, i);
    }

    private Person personAt(int i) {
        return element(w.persons, i);
    }

    private Gift giftAt(int i) {
        return element(w.gifts, i);
    }

    private static <T> T element(List<T> all, int i) {
        if (i < 0 || i >= all.size()) {
            throw new IndexOutOfBoundsException();
        }
        return all.get(i);
    }

    private static void argument(boolean fine) {
        if (!fine) {
            throw new IllegalArgumentException();
        }
    }

    private static void state(boolean fine) {
        if (!fine) {
            throw new IllegalStateException();
        }
    }
}
