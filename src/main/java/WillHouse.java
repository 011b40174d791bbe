import java.util.Arrays;
import java.util.NoSuchElementException;

/** A house of somebody who died with a will. Words in capitals are those of ../shared/DOC.md. */
public final class WillHouse {
    public static final int NONE = -1;

    private static final int MOST_BYTES = 400;
    private static final int FED_BYTES = 20;
    private static final int MOST_THINGS = 8;
    private static final int MOST_PERSONS = 12;
    private static final int MOST_GIFTS = 12;
    private static final int MOST_ACTS = 16;
    private static final int MOST_LETTERS = 6;
    private static final int MOST_DIGITS = 5;
    private static final int MOST_WORTH = 9999;
    private static final int MOST_CASH = 99999;
    private static final int MOST_SHARES = 9;

    private static final int SPECIFIC = 0;
    private static final int GENERAL = 1;
    private static final int DEMONSTRATIVE = 2;
    private static final int RESIDUARY = 3;

    private static final int HELD = 0;
    private static final int SOLD = 1;
    private static final int LOST = 2;

    private static final int FIRST_RANK = 1;
    private static final int LAST_RANK = 4;
    private static final int INTEREST = 5;
    private static final int REST = 6;
    private static final int CLASSES = 7;

    private static final int CASH = 0;
    private static final int DEBT = 1;
    private static final int MONTHS = 2;
    private static final int RATE = 3;
    private static final int RULE = 4;
    private static final int TOLD_NUMBERS = 5;
    private static final int[] MOST_TOLD = {99999, 99999, 240, 99, 1};
    private static final int RATE_AT_FIRST = 5;
    private static final int FREE_MONTHS = 12;
    private static final int INTEREST_DIVISOR = 1200;

    private static final Word[] WORDS = Word.values();

    private final byte[] tape = new byte[MOST_BYTES];
    private int tapeLength;
    private final Reader reader = new Reader(tape);
    private Will will = new Will();
    private final Facts facts = new Facts();
    private final Acts acts = new Acts();
    private final Reckoning reckoned = new Reckoning(will, facts);
    private boolean stale = true;
    private final Facts supposed = new Facts();
    private final Reckoning trial = new Reckoning(will, supposed);
    private final StringBuilder written = new StringBuilder();

    public WillHouse() {
    }

    // ---- the text

    public int feed(int a, int b, int c, int d, int e) {
        if (tapeLength > MOST_BYTES - FED_BYTES) {
            return NONE;
        }
        putFourBytes(a);
        putFourBytes(b);
        putFourBytes(c);
        putFourBytes(d);
        putFourBytes(e);
        return tapeLength;
    }

    private void putFourBytes(int number) {
        for (int shift = 24; shift >= 0; shift -= 8) {
            if (tapeLength < MOST_BYTES) {
                tape[tapeLength] = (byte) (number >> shift);
                tapeLength++;
            }
        }
    }

    public boolean end(int n) {
        if (n < 0 || n > tapeLength) {
            return false;
        }
        tapeLength = n;
        return true;
    }

    public int read() throws IllegalArgumentException {
        int length = tapeLength;
        tapeLength = 0;
        reader.begin(length);
        for (int line = 0; line < MOST_BYTES && reader.hasMore(); line++) {
            reader.readLine();
        }
        Will old = will;
        will = reader.will;
        reader.will = old;
        facts.copyFrom(reader.facts);
        acts.forgetAll();
        stale = true;
        return will.gifts;
    }

    public int fault() {
        return reader.fault;
    }

    // ---- what was told

    public int name(boolean person, int i, int k) throws IndexOutOfBoundsException {
        if (person) {
            checkPerson(i);
            return will.persons.letter(i, k);
        }
        checkThing(i);
        return will.things.letter(i, k);
    }

    public int thing(int thing, int what) throws IndexOutOfBoundsException, NoSuchElementException {
        checkThing(thing);
        switch (what) {
            case 0: return facts.worth(thing);
            case 1: return facts.state(thing);
            case 2: return facts.state(thing) == SOLD ? facts.price(thing) : NONE;
            case 3: return facts.isHeld(thing) ? NONE : facts.brings(thing);
            case 4: return facts.brings(thing);
            default: throw new NoSuchElementException("a thing has no such number");
        }
    }

    public int person(int person, int what) throws IndexOutOfBoundsException, NoSuchElementException {
        checkPerson(person);
        switch (what) {
            case 0: return will.parent[person];
            case 1: return will.child[person] ? 1 : 0;
            case 2: return will.kin[person] ? 1 : 0;
            case 3: return facts.isDead(person) ? 1 : 0;
            case 4: return reckoning().living[person] == 0 ? 1 : 0;
            case 5: return reckoning().living[person];
            default: throw new NoSuchElementException("a person has no such number");
        }
    }

    public int gift(int gift, int what) throws IndexOutOfBoundsException, NoSuchElementException {
        checkGift(gift);
        switch (what) {
            case 0: return will.kind[gift];
            case 1: return will.person[gift];
            case 2: return will.thing[gift];
            case 3: return will.amount[gift];
            case 4: return will.rank[gift];
            case 5: return reckoning().lapses[gift] ? 1 : 0;
            case 6: return ademption(gift);
            default: throw new NoSuchElementException("a gift has no such number");
        }
    }

    private int ademption(int gift) {
        if (will.kind[gift] != SPECIFIC || facts.isHeld(will.thing[gift])) {
            return 0;
        }
        return facts.brings(will.thing[gift]) == 0 ? 2 : 1;
    }

    // ---- acts

    public int sell(int thing, int price, int owed)
            throws IndexOutOfBoundsException, IllegalArgumentException, IllegalStateException {
        checkThing(thing);
        checkSale(thing, price, owed);
        beginAct();
        facts.putSold(thing, price, owed);
        return facts.told(CASH);
    }

    public int change(int thing, int worth)
            throws IndexOutOfBoundsException, IllegalArgumentException, IllegalStateException {
        checkThing(thing);
        if (worth < 1 || worth > MOST_WORTH) {
            throw new IllegalArgumentException("no worth");
        }
        checkHeld(thing);
        beginAct();
        int before = facts.worth(thing);
        facts.putWorth(thing, worth);
        return before;
    }

    public int lose(int thing, int insured)
            throws IndexOutOfBoundsException, IllegalArgumentException, IllegalStateException {
        checkThing(thing);
        if (insured < 0 || insured > MOST_WORTH) {
            throw new IllegalArgumentException("no sum to be insured for");
        }
        checkHeld(thing);
        beginAct();
        facts.putLost(thing, insured);
        return facts.worth(thing);
    }

    public int die(int person) throws IndexOutOfBoundsException, IllegalStateException {
        checkPerson(person);
        checkLives(person);
        beginAct();
        facts.putDead(person);
        return countLiving();
    }

    public boolean renounce(int gift, boolean is) throws IndexOutOfBoundsException {
        checkGift(gift);
        beginAct();
        boolean before = facts.isRenounced(gift);
        facts.putRenounced(gift, is);
        return before;
    }

    public int set(int what, int v) throws NoSuchElementException, IllegalArgumentException {
        if (what < 0 || what >= TOLD_NUMBERS) {
            throw new NoSuchElementException("no such number is told");
        }
        if (v < 0 || v > MOST_TOLD[what]) {
            throw new IllegalArgumentException("out of bounds");
        }
        beginAct();
        int before = facts.told(what);
        facts.putTold(what, v);
        return before;
    }

    public int undo() {
        if (acts.count == 0) {
            return NONE;
        }
        acts.takeBack(facts);
        stale = true;
        return acts.count;
    }

    private void beginAct() {
        acts.keep(facts);
        stale = true;
    }

    // ---- what is there, what is due

    public int estate(int what) throws NoSuchElementException {
        switch (what) {
            case 0: return reckoning().estate;
            case 1: return reckoning().available;
            case 2: return Math.max(0, facts.told(DEBT) - reckoning().estate);
            case 3: return reckoning().rest;
            case 4: return reckoning().intestate;
            case 5: return reckoning().bona;
            case 6: return reckoning().available - reckoning().rest;
            case 7: return reckoning().cut;
            default: throw new NoSuchElementException("an estate has no such number");
        }
    }

    public int due(int gift, int kind) throws IndexOutOfBoundsException, IllegalArgumentException {
        checkGift(gift);
        checkClass(kind, REST);
        return reckoning().due[gift][kind];
    }

    public int gets(int gift, int kind) throws IndexOutOfBoundsException, IllegalArgumentException {
        checkGift(gift);
        if (kind == NONE) {
            return reckoning().gotIn(gift, 0, REST);
        }
        checkClass(kind, REST);
        return reckoning().gets[gift][kind];
    }

    public int classed(int kind, int what) throws IllegalArgumentException, NoSuchElementException {
        checkClass(kind, REST);
        switch (what) {
            case 0: return reckoning().dueOfAll(kind);
            case 1: return reckoning().gotByAll(kind);
            case 2: return reckoning().countDue(kind);
            default: throw new NoSuchElementException("a class has no such number");
        }
    }

    public boolean itself(int gift) throws IndexOutOfBoundsException, IllegalArgumentException {
        checkGift(gift);
        if (will.kind[gift] != SPECIFIC) {
            throw new IllegalArgumentException("the gift is not of a thing");
        }
        return !reckoning().lapses[gift] && facts.isHeld(will.thing[gift]) && reckoning().cut != 0;
    }

    public int leastDebt(int kind) throws IllegalArgumentException {
        checkClass(kind, LAST_RANK);
        if (reckoning().dueOfAll(kind) == 0) {
            return NONE;
        }
        return Math.max(0, reckoning().estate - reckoning().dueUpTo(kind) + 1);
    }

    public int needed(int kind) throws IllegalArgumentException {
        checkClass(kind, LAST_RANK);
        int claims = reckoning().dueUpTo(kind);
        if (claims == 0) {
            // what is AVAILABLE is never below 0, so nothing must come even for debts
            return 0;
        }
        int brought = reckoning().estate - facts.told(CASH);
        int cash = Math.max(0, claims + facts.told(DEBT) - brought);
        return cash > MOST_CASH ? NONE : cash;
    }

    public int part(int gift) throws IndexOutOfBoundsException {
        checkGift(gift);
        int claims = reckoning().dueIn(gift, 0, LAST_RANK);
        if (claims == 0) {
            return NONE;
        }
        return reckoning().gotIn(gift, 0, LAST_RANK) * 1000 / claims;
    }

    public int left(int thing) throws IndexOutOfBoundsException {
        checkThing(thing);
        return reckoning().fundLeft[thing];
    }

    // ---- who takes

    public int takes(int gift, int person) throws IndexOutOfBoundsException {
        checkGift(gift);
        checkPerson(person);
        return reckoning().takes[gift][person];
    }

    public int taken(int person, int what) throws IndexOutOfBoundsException, NoSuchElementException {
        checkPerson(person);
        switch (what) {
            case 0: return reckoning().takenInAll(person);
            case 1: return reckoning().inherits[person];
            case 2: return reckoning().takenOfOthers(person);
            default: throw new NoSuchElementException("nothing such is taken");
        }
    }

    public int stock(int person, int k) throws IndexOutOfBoundsException {
        checkPerson(person);
        return reckoning().livingInStock(person, k);
    }

    public int heir(int k) {
        int behind = k;
        for (int person = 0; person < will.persons.count; person++) {
            if (reckoning().isHeir(person)) {
                if (behind == 0) {
                    return person;
                }
                behind--;
            }
        }
        return NONE;
    }

    public int ranked(int k) {
        for (int person = 0; person < will.persons.count; person++) {
            if (reckoning().countAhead(person) == k) {
                return person;
            }
        }
        return NONE;
    }

    // ---- as if

    public int ifDead(int person, int other) throws IndexOutOfBoundsException, IllegalStateException {
        checkPerson(person);
        checkPerson(other);
        checkLives(other);
        supposed.copyFrom(facts);
        supposed.putDead(other);
        return takenAsSupposed(person);
    }

    public int ifSold(int person, int thing, int price, int owed)
            throws IndexOutOfBoundsException, IllegalArgumentException, IllegalStateException {
        checkPerson(person);
        checkThing(thing);
        checkSale(thing, price, owed);
        supposed.copyFrom(facts);
        supposed.putSold(thing, price, owed);
        return takenAsSupposed(person);
    }

    public int ifDebt(int person, int debt) throws IndexOutOfBoundsException, IllegalArgumentException {
        checkPerson(person);
        if (debt < 0 || debt > MOST_TOLD[DEBT]) {
            throw new IllegalArgumentException("no debt");
        }
        supposed.copyFrom(facts);
        supposed.putTold(DEBT, debt);
        return takenAsSupposed(person);
    }

    public int ifRenounced(int person, int gift) throws IndexOutOfBoundsException {
        checkPerson(person);
        checkGift(gift);
        supposed.copyFrom(facts);
        supposed.putRenounced(gift, true);
        return takenAsSupposed(person);
    }

    public int ifHeld(int gift) throws IndexOutOfBoundsException, IllegalArgumentException {
        checkGift(gift);
        int thing = will.thing[gift];
        if (thing == NONE) {
            throw new IllegalArgumentException("the gift is neither of a thing nor out of one");
        }
        supposed.copyFrom(facts);
        supposed.putHeld(thing);
        trial.reckon(will);
        return trial.gotIn(gift, 0, REST);
    }

    public int envied(int person) throws IndexOutOfBoundsException {
        checkPerson(person);
        int best = NONE;
        int most = NONE;
        for (int other = 0; other < will.persons.count; other++) {
            if (other != person && !facts.isDead(other)) {
                supposed.copyFrom(facts);
                supposed.putDead(other);
                int would = takenAsSupposed(person);
                if (would > most) {
                    most = would;
                    best = other;
                }
            }
        }
        return best;
    }

    private int takenAsSupposed(int person) {
        trial.reckon(will);
        return trial.takenInAll(person);
    }

    public int write(int person) throws IndexOutOfBoundsException {
        checkPerson(person);
        written.setLength(0);
        for (int k = 0; k < will.persons.lengths[person]; k++) {
            written.append((char) will.persons.letter(person, k));
        }
        written.append(' ').append(reckoning().takenInAll(person));
        if (facts.isDead(person)) {
            written.append(" dead");
        }
        for (int gift = 0; gift < will.gifts; gift++) {
            int amount = reckoning().takes[gift][person];
            if (amount > 0) {
                written.append(' ').append(gift).append(':').append(amount);
            }
        }
        if (reckoning().inherits[person] > 0) {
            written.append(" i:").append(reckoning().inherits[person]);
        }
        return written.length();
    }

    public int octet(int k) {
        return k < 0 || k >= written.length() ? NONE : written.charAt(k);
    }

    public int count(int what) {
        switch (what) {
            case 0: return will.things.count;
            case 1: return will.persons.count;
            case 2: return will.gifts;
            case 3: return facts.told(CASH);
            case 4: return facts.told(DEBT);
            case 5: return facts.told(MONTHS);
            case 6: return facts.told(RATE);
            case 7: return facts.told(RULE);
            case 8: return countLiving();
            case 9: return countHeld();
            case 10: return reckoning().countLapsed();
            case 11: return reckoning().heirs;
            case 12: return acts.count;
            case 13: return written.length();
            case 14: return countRenounced();
            default: return NONE;
        }
    }

    private int countLiving() {
        int living = 0;
        for (int person = 0; person < will.persons.count; person++) {
            living += facts.isDead(person) ? 0 : 1;
        }
        return living;
    }

    private int countHeld() {
        int held = 0;
        for (int thing = 0; thing < will.things.count; thing++) {
            held += facts.isHeld(thing) ? 1 : 0;
        }
        return held;
    }

    private int countRenounced() {
        int renounced = 0;
        for (int gift = 0; gift < will.gifts; gift++) {
            renounced += facts.isRenounced(gift) ? 1 : 0;
        }
        return renounced;
    }

    // ---- what a call needs

    private Reckoning reckoning() {
        if (stale) {
            reckoned.reckon(will);
            stale = false;
        }
        return reckoned;
    }

    private void checkThing(int thing) {
        if (thing < 0 || thing >= will.things.count) {
            throw new IndexOutOfBoundsException("no such thing");
        }
    }

    private void checkPerson(int person) {
        if (person < 0 || person >= will.persons.count) {
            throw new IndexOutOfBoundsException("no such person");
        }
    }

    private void checkGift(int gift) {
        if (gift < 0 || gift >= will.gifts) {
            throw new IndexOutOfBoundsException("no such gift");
        }
    }

    private void checkClass(int kind, int last) {
        if (kind < 0 || kind > last) {
            throw new IllegalArgumentException("no such class");
        }
    }

    private void checkHeld(int thing) {
        if (!facts.isHeld(thing)) {
            throw new IllegalStateException("the thing is not held");
        }
    }

    private void checkLives(int person) {
        if (facts.isDead(person)) {
            throw new IllegalStateException("the person is dead");
        }
    }

    private void checkSale(int thing, int price, int owed) {
        if (price < 1 || price > MOST_WORTH || owed < 0 || owed > price) {
            throw new IllegalArgumentException("no price or no part of it");
        }
        checkHeld(thing);
        if (facts.told(CASH) + price - owed > MOST_CASH) {
            throw new IllegalStateException("too much cash");
        }
    }

    /** The words of the LINES. */
    private enum Word {
        THING("thing"), CASH("cash"), DEBT("debt"), CHILD("child"), FRIEND("friend"), ISSUE("issue"),
        OF("of"), GIVE("give"), TO("to"), SUM("sum"), RANK("rank"), FROM("from"), REST("rest"),
        SOLD("sold"), OWED("owed"), CHANGED("changed"), LOST("lost"), INSURED("insured"), DEAD("dead"),
        MONTHS("months"), RATE("rate"), RULE("rule"), WORTH("worth"),
        // no word is empty, so this one stands for all others
        OTHER("");

        final String letters;

        Word(String letters) {
            this.letters = letters;
        }
    }

    /** Names of THINGS or of PERSONS, numbered as they come. */
    private static final class Names {
        final int[] lengths;
        int count;
        private final byte[][] letters;

        Names(int most) {
            lengths = new int[most];
            letters = new byte[most][MOST_LETTERS];
        }

        int add(byte[] text, int start, int length) {
            int added = count;
            System.arraycopy(text, start, letters[added], 0, length);
            lengths[added] = length;
            count++;
            return added;
        }

        int find(byte[] text, int start, int length) {
            for (int i = 0; i < count; i++) {
                if (lengths[i] == length && isSame(letters[i], text, start, length)) {
                    return i;
                }
            }
            return NONE;
        }

        private static boolean isSame(byte[] name, byte[] text, int start, int length) {
            for (int k = 0; k < length; k++) {
                if (name[k] != text[start + k]) {
                    return false;
                }
            }
            return true;
        }

        int letter(int i, int k) {
            return k < 0 || k >= lengths[i] ? NONE : letters[i][k];
        }
    }

    /** What stays as the text told it: who is whose issue, which GIFTS there are. */
    private static final class Will {
        final Names things = new Names(MOST_THINGS);
        final boolean[] given = new boolean[MOST_THINGS];
        final boolean[] fund = new boolean[MOST_THINGS];
        final Names persons = new Names(MOST_PERSONS);
        final int[] parent = new int[MOST_PERSONS];
        final boolean[] child = new boolean[MOST_PERSONS];
        final boolean[] kin = new boolean[MOST_PERSONS];
        int gifts;
        final int[] kind = new int[MOST_GIFTS];
        final int[] person = new int[MOST_GIFTS];
        final int[] thing = new int[MOST_GIFTS];
        final int[] amount = new int[MOST_GIFTS];
        final int[] rank = new int[MOST_GIFTS];

        void clear() {
            things.count = 0;
            persons.count = 0;
            gifts = 0;
            for (int i = 0; i < MOST_THINGS; i++) {
                given[i] = false;
                fund[i] = false;
            }
        }

        void putPerson(int number, int itsParent, boolean isChild) {
            parent[number] = itsParent;
            child[number] = isChild;
            kin[number] = isChild || itsParent != NONE && kin[itsParent];
        }

        void addGift(int itsKind, int toPerson, int ofThing, int itsAmount, int itsRank) {
            kind[gifts] = itsKind;
            person[gifts] = toPerson;
            thing[gifts] = ofThing;
            amount[gifts] = itsAmount;
            rank[gifts] = itsRank;
            gifts++;
            if (itsKind == SPECIFIC) {
                given[ofThing] = true;
            } else if (itsKind == DEMONSTRATIVE) {
                fund[ofThing] = true;
            }
        }
    }

    /** What ACTS change. One row of numbers, so that one copy keeps all of it. */
    private static final class Facts {
        private static final int WORTH_AT = 0;
        private static final int STATE_AT = WORTH_AT + MOST_THINGS;
        private static final int PRICE_AT = STATE_AT + MOST_THINGS;
        private static final int COMES_AT = PRICE_AT + MOST_THINGS;
        private static final int DEAD_AT = COMES_AT + MOST_THINGS;
        private static final int RENOUNCED_AT = DEAD_AT + MOST_PERSONS;
        private static final int TOLD_AT = RENOUNCED_AT + MOST_GIFTS;
        static final int CELLS = TOLD_AT + TOLD_NUMBERS;

        final int[] cells = new int[CELLS];

        Facts() {
            cells[TOLD_AT + RATE] = RATE_AT_FIRST;
        }

        void clear() {
            Arrays.fill(cells, 0);
            cells[TOLD_AT + RATE] = RATE_AT_FIRST;
        }

        void copyFrom(Facts others) {
            System.arraycopy(others.cells, 0, cells, 0, CELLS);
        }

        int worth(int thing) {
            return cells[WORTH_AT + thing];
        }

        int state(int thing) {
            return cells[STATE_AT + thing];
        }

        boolean isHeld(int thing) {
            return cells[STATE_AT + thing] == HELD;
        }

        int price(int thing) {
            return cells[PRICE_AT + thing];
        }

        int brings(int thing) {
            return isHeld(thing) ? worth(thing) : cells[COMES_AT + thing];
        }

        boolean isDead(int person) {
            return cells[DEAD_AT + person] != 0;
        }

        boolean isRenounced(int gift) {
            return cells[RENOUNCED_AT + gift] != 0;
        }

        int told(int what) {
            return cells[TOLD_AT + what];
        }

        void putWorth(int thing, int worth) {
            cells[WORTH_AT + thing] = worth;
        }

        void putHeld(int thing) {
            cells[STATE_AT + thing] = HELD;
        }

        void putSold(int thing, int price, int owed) {
            cells[STATE_AT + thing] = SOLD;
            cells[PRICE_AT + thing] = price;
            cells[COMES_AT + thing] = owed;
            cells[TOLD_AT + CASH] += price - owed;
        }

        void putLost(int thing, int insured) {
            cells[STATE_AT + thing] = LOST;
            cells[COMES_AT + thing] = insured;
        }

        void putDead(int person) {
            cells[DEAD_AT + person] = 1;
        }

        void putRenounced(int gift, boolean is) {
            cells[RENOUNCED_AT + gift] = is ? 1 : 0;
        }

        void putTold(int what, int value) {
            cells[TOLD_AT + what] = value;
        }
    }

    /** The facts as they were ahead of each of the latest ACTS. */
    private static final class Acts {
        private final int[][] kept = new int[MOST_ACTS][Facts.CELLS];
        private int next;
        int count;

        void forgetAll() {
            count = 0;
        }

        void keep(Facts facts) {
            System.arraycopy(facts.cells, 0, kept[next], 0, Facts.CELLS);
            next = next == MOST_ACTS - 1 ? 0 : next + 1;
            count = Math.min(MOST_ACTS, count + 1);
        }

        void takeBack(Facts facts) {
            next = next == 0 ? MOST_ACTS - 1 : next - 1;
            count = Math.max(0, count - 1);
            System.arraycopy(kept[next], 0, facts.cells, 0, Facts.CELLS);
        }
    }

    /** Reads THE TEXT into a will and facts of its own, so that a wrong one changes nothing. */
    private static final class Reader {
        Will will = new Will();
        final Facts facts = new Facts();
        int fault = NONE;
        private final byte[] text;
        private int length;
        private int at;
        // where the word or number taken latest begins
        private int start;

        Reader(byte[] text) {
            this.text = text;
        }

        void begin(int textLength) {
            length = textLength;
            at = 0;
            fault = NONE;
            will.clear();
            facts.clear();
            skipBlanks();
        }

        boolean hasMore() {
            return at < length;
        }

        void readLine() {
            takeWord();
            switch (takenWord()) {
                case THING: readThing(); break;
                case CASH: facts.putTold(CASH, takeNumber(0, MOST_TOLD[CASH])); break;
                case DEBT: facts.putTold(DEBT, takeNumber(0, MOST_TOLD[DEBT])); break;
                case CHILD: readPerson(true); break;
                case FRIEND: readPerson(false); break;
                case ISSUE: readIssue(); break;
                case GIVE: readGift(SPECIFIC); break;
                case SUM: readGift(GENERAL); break;
                case FROM: readGift(DEMONSTRATIVE); break;
                case REST: readGift(RESIDUARY); break;
                case SOLD: readSold(); break;
                case CHANGED: readChanged(); break;
                case LOST: readLost(); break;
                case DEAD: readDead(); break;
                case MONTHS: facts.putTold(MONTHS, takeNumber(0, MOST_TOLD[MONTHS])); break;
                case RATE: facts.putTold(RATE, takeNumber(0, MOST_TOLD[RATE])); break;
                case RULE: readRule(); break;
                default: demand(false, start);
            }
            takeEnd();
        }

        private void readThing() {
            demand(will.things.count < MOST_THINGS, start);
            int thing = takeNewName(will.things);
            facts.putWorth(thing, takeNumber(1, MOST_WORTH));
        }

        private void readPerson(boolean isChild) {
            demand(will.persons.count < MOST_PERSONS, start);
            will.putPerson(takeNewName(will.persons), NONE, isChild);
        }

        private void readIssue() {
            demand(will.persons.count < MOST_PERSONS, start);
            int person = takeNewName(will.persons);
            takeThis(Word.OF);
            int parent = takeToldName(will.persons);
            demand(parent != person, start);
            will.putPerson(person, parent, false);
        }

        private void readGift(int kind) {
            demand(will.gifts < MOST_GIFTS, start);
            int thing = NONE;
            if (kind == SPECIFIC || kind == DEMONSTRATIVE) {
                thing = takeToldName(will.things);
                boolean isTakenAsFund = kind == SPECIFIC && will.fund[thing];
                demand(!will.given[thing] && !isTakenAsFund, start);
            }
            int amount = NONE;
            if (kind != SPECIFIC) {
                amount = takeNumber(1, kind == RESIDUARY ? MOST_SHARES : MOST_WORTH);
            }
            takeThis(Word.TO);
            int person = takeToldName(will.persons);
            int rank = kind == GENERAL || kind == DEMONSTRATIVE ? takeRank() : NONE;
            will.addGift(kind, person, thing, amount, rank);
        }

        private void readSold() {
            int thing = takeToldName(will.things);
            demand(facts.isHeld(thing), start);
            int price = takeNumber(1, MOST_WORTH);
            takeThis(Word.OWED);
            int owed = takeNumber(0, price);
            demand(facts.told(CASH) + price - owed <= MOST_CASH, start);
            facts.putSold(thing, price, owed);
        }

        private void readChanged() {
            int thing = takeToldName(will.things);
            demand(facts.isHeld(thing), start);
            facts.putWorth(thing, takeNumber(1, MOST_WORTH));
        }

        private void readLost() {
            int thing = takeToldName(will.things);
            demand(facts.isHeld(thing), start);
            takeThis(Word.INSURED);
            facts.putLost(thing, takeNumber(0, MOST_WORTH));
        }

        private void readDead() {
            int person = takeToldName(will.persons);
            demand(!facts.isDead(person), start);
            facts.putDead(person);
        }

        private void readRule() {
            takeThis(Word.WORTH);
            facts.putTold(RULE, 1);
        }

        private int takeRank() {
            skipBlanks();
            if (at < length && isLetter(text[at])) {
                takeThis(Word.RANK);
                return takeNumber(FIRST_RANK, LAST_RANK);
            }
            return LAST_RANK;
        }

        private int takeNewName(Names names) {
            takeWord();
            int taken = at - start;
            boolean isName = taken <= MOST_LETTERS && takenWord() == Word.OTHER;
            demand(isName && names.find(text, start, taken) == NONE, start);
            return names.add(text, start, taken);
        }

        private int takeToldName(Names names) {
            takeWord();
            int number = names.find(text, start, at - start);
            demand(number != NONE, start);
            return number;
        }

        private void takeThis(Word word) {
            takeWord();
            demand(isTaken(word.letters), start);
        }

        private void takeWord() {
            skipBlanks();
            start = at;
            while (at < length && isLetter(text[at])) {
                at++;
            }
            demand(at > start, start);
        }

        private int takeNumber(int least, int most) {
            skipBlanks();
            start = at;
            int value = 0;
            while (at < length && isDigit(text[at])) {
                // a longer one is wrong anyhow, and must not run over
                if (at - start < MOST_DIGITS) {
                    value = value * 10 + (text[at] - '0');
                }
                at++;
            }
            int digits = at - start;
            demand(digits > 0 && digits <= MOST_DIGITS && value >= least && value <= most, start);
            return value;
        }

        private void takeEnd() {
            skipBlanks();
            demand(at < length && text[at] == ';', at);
            at++;
            skipBlanks();
        }

        private void skipBlanks() {
            while (at < length && (text[at] == ' ' || text[at] == '\n' || text[at] == '\t')) {
                at++;
            }
        }

        private Word takenWord() {
            for (int i = 0; i < WORDS.length; i++) {
                if (isTaken(WORDS[i].letters)) {
                    return WORDS[i];
                }
            }
            return Word.OTHER;
        }

        private boolean isTaken(String letters) {
            if (letters.length() != at - start) {
                return false;
            }
            for (int k = 0; k < letters.length(); k++) {
                if (text[start + k] != letters.charAt(k)) {
                    return false;
                }
            }
            return true;
        }

        private void demand(boolean fine, int position) {
            if (!fine) {
                fault = position;
                throw new IllegalArgumentException("the text is wrong");
            }
        }

        private static boolean isLetter(byte sign) {
            return sign >= 'a' && sign <= 'z';
        }

        private static boolean isDigit(byte sign) {
            return sign >= '0' && sign <= '9';
        }
    }

    /** What each GIFT is DUE and gets and who TAKES it, by a will and the facts of a time. */
    private static final class Reckoning {
        final int[] living = new int[MOST_PERSONS];
        final boolean[] lapses = new boolean[MOST_GIFTS];
        final int[] fundLeft = new int[MOST_THINGS];
        final int[][] due = new int[MOST_GIFTS][CLASSES];
        final int[][] gets = new int[MOST_GIFTS][CLASSES];
        final int[][] takes = new int[MOST_GIFTS][MOST_PERSONS];
        final int[] inherits = new int[MOST_PERSONS];
        int estate;
        int available;
        int rest;
        int intestate;
        int bona;
        int cut;
        int heirs;
        private Will will;
        private final Facts facts;
        private final int[] weights = new int[MOST_GIFTS];
        private final long[] rests = new long[MOST_GIFTS];
        private final int[] passing = new int[MOST_PERSONS];

        Reckoning(Will will, Facts facts) {
            this.will = will;
            this.facts = facts;
        }

        void reckon(Will newWill) {
            will = newWill;
            clear();
            lookAtStocks();
            lookAtEstate();
            for (int gift = 0; gift < will.gifts; gift++) {
                lapses[gift] = isLapsed(gift);
                if (!lapses[gift]) {
                    claim(gift);
                }
            }
            payClasses();
            partRest();
            passGifts();
            passIntestate();
        }

        private void clear() {
            for (int gift = 0; gift < MOST_GIFTS; gift++) {
                Arrays.fill(due[gift], 0);
                Arrays.fill(gets[gift], 0);
                Arrays.fill(takes[gift], 0);
            }
            Arrays.fill(living, 0);
            Arrays.fill(inherits, 0);
            intestate = 0;
            bona = 0;
            cut = NONE;
            heirs = 0;
        }

        private void lookAtStocks() {
            // issue is told behind its PARENT, so its STOCK is known ahead of the PARENT'S this way
            for (int person = will.persons.count - 1; person >= 0; person--) {
                if (!facts.isDead(person)) {
                    living[person] = 1;
                }
                int parent = will.parent[person];
                if (parent != NONE) {
                    living[parent] += living[person];
                }
                heirs += isHeir(person) ? 1 : 0;
            }
        }

        boolean isHeir(int person) {
            return will.child[person] && living[person] > 0;
        }

        private boolean isLapsed(int gift) {
            int person = will.person[gift];
            return facts.isRenounced(gift) || facts.isDead(person) && !will.kin[person] || living[person] == 0;
        }

        private void lookAtEstate() {
            estate = facts.told(CASH);
            for (int thing = 0; thing < will.things.count; thing++) {
                fundLeft[thing] = facts.brings(thing);
                estate += fundLeft[thing];
            }
            available = Math.max(0, estate - facts.told(DEBT));
        }

        private void claim(int gift) {
            int kind = will.kind[gift];
            if (kind == SPECIFIC) {
                claimThing(gift, will.thing[gift]);
            } else if (kind == GENERAL) {
                due[gift][will.rank[gift]] = will.amount[gift];
            } else if (kind == DEMONSTRATIVE) {
                claimOutOfFund(gift, will.thing[gift]);
            }
        }

        private void claimThing(int gift, int thing) {
            int brings = facts.brings(thing);
            due[gift][0] = brings;
            if (facts.told(RULE) == 1) {
                // of a THING that is HELD this is 0, so no look at ADEEMED is needed
                due[gift][LAST_RANK] = Math.max(0, facts.worth(thing) - brings);
            }
        }

        private void claimOutOfFund(int gift, int fund) {
            int sum = will.amount[gift];
            int there = Math.min(sum, fundLeft[fund]);
            fundLeft[fund] -= there;
            due[gift][0] = there;
            due[gift][will.rank[gift]] = sum - there;
        }

        private void payClasses() {
            int left = available;
            for (int kind = 0; kind <= LAST_RANK; kind++) {
                left = payClass(kind, left);
            }
            claimInterest();
            rest = payClass(INTEREST, left);
        }

        private void claimInterest() {
            int late = Math.max(0, facts.told(MONTHS) - FREE_MONTHS);
            for (int gift = 0; gift < will.gifts; gift++) {
                long got = gotIn(gift, FIRST_RANK, LAST_RANK);
                due[gift][INTEREST] = (int) (got * facts.told(RATE) * late / INTEREST_DIVISOR);
            }
        }

        private int payClass(int kind, int left) {
            int claims = dueOfAll(kind);
            boolean enough = claims <= left;
            if (!enough && cut == NONE) {
                cut = kind;
            }
            for (int gift = 0; gift < will.gifts; gift++) {
                weights[gift] = due[gift][kind];
            }
            partByWeights(kind, enough ? claims : left);
            return enough ? left - claims : 0;
        }

        private void partRest() {
            int shares = 0;
            for (int gift = 0; gift < will.gifts; gift++) {
                weights[gift] = will.kind[gift] == RESIDUARY && !lapses[gift] ? will.amount[gift] : 0;
                shares += weights[gift];
            }
            if (shares == 0) {
                intestate = heirs > 0 ? rest : 0;
                bona = heirs > 0 ? 0 : rest;
                return;
            }
            partByWeights(REST, rest);
            for (int gift = 0; gift < will.gifts; gift++) {
                due[gift][REST] = gets[gift][REST];
            }
        }

        private void partByWeights(int kind, int amount) {
            long all = 0;
            for (int gift = 0; gift < will.gifts; gift++) {
                all += weights[gift];
            }
            if (all == 0) {
                return;
            }
            int over = amount;
            for (int gift = 0; gift < will.gifts; gift++) {
                long product = (long) weights[gift] * amount;
                gets[gift][kind] = (int) (product / all);
                rests[gift] = product % all;
                over -= gets[gift][kind];
            }
            for (int given = 0; given < over; given++) {
                int gift = greatestRest();
                gets[gift][kind]++;
                rests[gift] = 0;
            }
        }

        private int greatestRest() {
            int greatest = 0;
            for (int gift = 1; gift < will.gifts; gift++) {
                if (rests[gift] > rests[greatest]) {
                    greatest = gift;
                }
            }
            return greatest;
        }

        private void passGifts() {
            for (int gift = 0; gift < will.gifts; gift++) {
                for (int kind = 0; kind < CLASSES; kind++) {
                    if (gets[gift][kind] > 0) {
                        passOn(gets[gift][kind], will.person[gift], takes[gift]);
                    }
                }
            }
        }

        private void passIntestate() {
            if (heirs == 0) {
                return;
            }
            int each = intestate / heirs;
            int over = intestate % heirs;
            for (int person = 0; person < will.persons.count; person++) {
                if (isHeir(person)) {
                    passOn(over > 0 ? each + 1 : each, person, inherits);
                    over--;
                }
            }
        }

        /** Adds what is PASSED to the STOCK of a PERSON to the row of those who TAKE. */
        private void passOn(int amount, int head, int[] takers) {
            Arrays.fill(passing, 0);
            passing[head] = amount;
            // issue is told behind its PARENT, so all parts come to it ahead of its turn
            for (int person = head; person < will.persons.count; person++) {
                if (!facts.isDead(person)) {
                    takers[person] += passing[person];
                } else if (passing[person] > 0) {
                    passToIssue(person);
                }
            }
        }

        private void passToIssue(int parent) {
            int stocks = 0;
            for (int person = parent + 1; person < will.persons.count; person++) {
                stocks += isLivingIssue(person, parent) ? 1 : 0;
            }
            if (stocks == 0) {
                return;
            }
            int each = passing[parent] / stocks;
            int over = passing[parent] % stocks;
            for (int person = parent + 1; person < will.persons.count; person++) {
                if (isLivingIssue(person, parent)) {
                    passing[person] = over > 0 ? each + 1 : each;
                    over--;
                }
            }
        }

        private boolean isLivingIssue(int person, int parent) {
            return will.parent[person] == parent && living[person] > 0;
        }

        int livingInStock(int head, int k) {
            Arrays.fill(passing, 0);
            passing[head] = 1;
            int behind = k;
            for (int person = head; person < will.persons.count; person++) {
                int parent = will.parent[person];
                if (parent >= head && passing[parent] == 1 && facts.isDead(parent)) {
                    passing[person] = 1;
                }
                if (passing[person] == 1 && !facts.isDead(person)) {
                    if (behind == 0) {
                        return person;
                    }
                    behind--;
                }
            }
            return NONE;
        }

        int gotIn(int gift, int first, int last) {
            return sumOf(gets[gift], first, last);
        }

        int dueIn(int gift, int first, int last) {
            return sumOf(due[gift], first, last);
        }

        private static int sumOf(int[] row, int first, int last) {
            int sum = 0;
            for (int kind = first; kind <= last; kind++) {
                sum += row[kind];
            }
            return sum;
        }

        int dueOfAll(int kind) {
            return sumOfGifts(due, kind);
        }

        int gotByAll(int kind) {
            return sumOfGifts(gets, kind);
        }

        private int sumOfGifts(int[][] rows, int kind) {
            int sum = 0;
            for (int gift = 0; gift < will.gifts; gift++) {
                sum += rows[gift][kind];
            }
            return sum;
        }

        int dueUpTo(int last) {
            int sum = 0;
            for (int kind = 0; kind <= last; kind++) {
                sum += dueOfAll(kind);
            }
            return sum;
        }

        int countDue(int kind) {
            int count = 0;
            for (int gift = 0; gift < will.gifts; gift++) {
                count += due[gift][kind] > 0 ? 1 : 0;
            }
            return count;
        }

        int countLapsed() {
            int count = 0;
            for (int gift = 0; gift < will.gifts; gift++) {
                count += lapses[gift] ? 1 : 0;
            }
            return count;
        }

        int takenInAll(int person) {
            int sum = inherits[person];
            for (int gift = 0; gift < will.gifts; gift++) {
                sum += takes[gift][person];
            }
            return sum;
        }

        int countAhead(int person) {
            int own = takenInAll(person);
            int ahead = 0;
            for (int other = 0; other < will.persons.count; other++) {
                int theirs = takenInAll(other);
                if (theirs > own || theirs == own && other < person) {
                    ahead++;
                }
            }
            return ahead;
        }

        int takenOfOthers(int person) {
            int sum = 0;
            for (int gift = 0; gift < will.gifts; gift++) {
                sum += will.person[gift] == person ? 0 : takes[gift][person];
            }
            return sum;
        }
    }
}
