/** Promises 31 to 39: what would be if, envied, write, octet, count, a test for each sentence. */
final class IfSentencesTest {
    public static void main(String[] names) throws IllegalAccessException {
        Sentences.run(IfSentencesTest.class, names);
    }

    /** a takes 30, b 110 (t and the rest of 60), c, a friend, 10, d nothing. */
    private static WillHouse house() {
        return Checks.house("thing t 50;cash 100;child a;child b;friend c;issue d of a;give t to b;sum 30 to a;sum 10 to c;",
                "rest 1 to b;");
    }

    /** Asking what would be changes nothing of what is. */
    private static void changesNothing(WillHouse house, int acts) {
        Checks.row("taken as ahead by", person -> house.taken(person, 0), 30, 110, 10, 0);
        Checks.same("acts", house.count(12), acts);
        Checks.same("living", house.count(8), 4);
        Checks.same("held", house.count(9), 1);
        Checks.same("cash", house.count(3), 100);
        Checks.same("debt", house.count(4), 0);
        Checks.same("renounced", house.count(14), 0);
    }

    @Sentence(of = "Promise 31", says = "What a PERSON would TAKE in all, had another one (that lives; or itself) died, too.")
    static void ifDead() {
        WillHouse house = house();
        Checks.row("were a dead, would take", person -> house.ifDead(person, 0), 0, 110, 10, 30);
        // nobody of b lives: t, too, is left to be parted among the heirs
        Checks.row("were b dead, would take", person -> house.ifDead(person, 1), 140, 0, 10, 0);
        Checks.row("were c dead, would take", person -> house.ifDead(person, 2), 30, 120, 0, 0);
        Checks.row("were d dead, would take", person -> house.ifDead(person, 3), 30, 110, 10, 0);
        changesNothing(house, 0);
        house.die(0);
        Checks.row("a is dead; were d dead, too, would take", person -> house.ifDead(person, 3), 0, 140, 10, 0);
    }

    @Sentence(of = "Promise 31", says = "IllegalStateException: that is dead.")
    static void ifDeadOfTheDead() {
        WillHouse house = house();
        house.die(0);
        Checks.noState("of another", () -> house.ifDead(1, 0));
        Checks.noState("of itself", () -> house.ifDead(0, 0));
        Checks.same("who takes may be dead", house.ifDead(0, 1), 0);
        house.undo();
        Checks.same("lives again", house.ifDead(3, 0), 30);
    }

    @Sentence(of = "Promise 32", says = "What a PERSON would TAKE in all, were a THING SOLD so.")
    static void ifSold() {
        WillHouse house = house();
        Checks.same("for 1, not owed", house.ifSold(1, 0, 1, 0), 61);
        Checks.same("for 1, owed", house.ifSold(1, 0, 1, 1), 61);
        Checks.same("for the most", house.ifSold(1, 0, 9999, 9999), 10059);
        Checks.same("for the most", house.ifSold(1, 0, 9999, 0), 10059);
        Checks.same("of another", house.ifSold(0, 0, 9999, 0), 30);
        changesNothing(house, 0);
        house.set(1, 105);
        // 45 are AVAILABLE
        Checks.same("what is owed goes ahead of the sums", house.ifSold(0, 0, 50, 50), 0);
        Checks.same("what is paid does not", house.ifSold(0, 0, 50, 0), 30);
        house.set(4, 1);
        Checks.same("with the rule", house.ifSold(0, 0, 50, 0), 15);
    }

    @Sentence(of = "Promise 32", says = "IndexOutOfBoundsException: PERSON, THING;")
    static void ifSoldOfNone() {
        WillHouse house = house();
        Checks.noIndexOutside("person", 3, person -> house.ifSold(person, 0, 5, 5));
        Checks.noIndexOutside("thing", 0, thing -> house.ifSold(0, thing, 5, 5));
        Checks.noIndex("of nothing", () -> new WillHouse().ifSold(0, 0, 5, 5));
    }

    @Sentence(of = "Promise 32", says = "the others as for sell().")
    static void ifSoldThrowsAsSell() {
        WillHouse house = house();
        int[][] wrong = {{0, 0}, {-1, -1}, {10000, 0}, {10000, 10000}, {5, 6}, {5, -1}, {Integer.MAX_VALUE, Integer.MAX_VALUE},
            {Integer.MIN_VALUE, Integer.MIN_VALUE}, {5, Integer.MAX_VALUE}, {5, Integer.MIN_VALUE}};
        for (int[] one : wrong) {
            Checks.noArgument("ifSold for " + one[0] + " owed " + one[1], () -> house.ifSold(1, 0, one[0], one[1]));
        }
        house.set(0, 99995);
        Checks.noState("cash 100000", () -> house.ifSold(1, 0, 5, 0));
        Checks.same("cash 99999", house.ifSold(1, 0, 5, 1), 99960);
        house.lose(0, 5);
        Checks.noState("lost", () -> house.ifSold(1, 0, 5, 5));
        house.undo();
        house.sell(0, 4, 4);
        Checks.noState("sold", () -> house.ifSold(1, 0, 5, 5));
    }

    @Sentence(of = "Promise 33", says = "What a PERSON would TAKE in all, were debt so much.")
    static void ifDebt() {
        WillHouse house = house();
        Checks.same("none", house.ifDebt(1, 0), 110);
        Checks.same("all of the rest", house.ifDebt(1, 60), 50);
        Checks.same("all of the sums", house.ifDebt(0, 100), 0);
        Checks.same("1 less", house.ifDebt(0, 99), 1);
        Checks.same("a part of t", house.ifDebt(1, 149), 1);
        Checks.same("all", house.ifDebt(1, 150), 0);
        Checks.same("the most", house.ifDebt(1, 99999), 0);
        changesNothing(house, 0);
        house.set(1, 150);
        Checks.same("in place of debt as it is", house.ifDebt(1, 0), 110);
    }

    @Sentence(of = "Promise 33", says = "IllegalArgumentException: the debt is none.")
    static void ifDebtOfNone() {
        WillHouse house = house();
        for (int debt : new int[] {-1, -2, 100000, 100001, Integer.MAX_VALUE, Integer.MIN_VALUE}) {
            Checks.noArgument("debt " + debt, () -> house.ifDebt(1, debt));
        }
        Checks.noIndexOutside("person", 3, person -> house.ifDebt(person, 0));
    }

    @Sentence(of = "Promise 34", says = "What a PERSON would TAKE in all, were a GIFT RENOUNCED.")
    static void ifRenounced() {
        WillHouse house = house();
        Checks.row("were 0 renounced, would take", person -> house.ifRenounced(person, 0), 30, 110, 10, 0);
        Checks.row("were 1 renounced, would take", person -> house.ifRenounced(person, 1), 0, 140, 10, 0);
        Checks.row("were 2 renounced, would take", person -> house.ifRenounced(person, 2), 30, 120, 0, 0);
        Checks.row("were 3 renounced, would take", person -> house.ifRenounced(person, 3), 60, 80, 10, 0);
        changesNothing(house, 0);
        house.renounce(3, true);
        Checks.row("it is already: would take", person -> house.ifRenounced(person, 3), 60, 80, 10, 0);
        Checks.row("2 too: would take", person -> house.ifRenounced(person, 2), 65, 85, 0, 0);
    }

    @Sentence(of = "Promise 34", says = "IndexOutOfBoundsException: PERSON, GIFT.")
    static void ifRenouncedOfNone() {
        WillHouse house = house();
        Checks.noIndexOutside("person", 3, person -> house.ifRenounced(person, 0));
        Checks.noIndexOutside("gift", 3, gift -> house.ifRenounced(0, gift));
        Checks.noIndex("of nothing", () -> new WillHouse().ifRenounced(0, 0));
    }

    @Sentence(of = "Promise 35", says = "What a SPECIFIC or DEMONSTRATIVE GIFT would get in all, were its THING HELD, with its WORTH"
            + " (cash as it is; all other GIFTS are reckoned by that, too).")
    static void ifHeld() {
        WillHouse house = Checks.house("thing t 50;thing u 30;cash 10;child a;friend b;give t to b;sum 20 to a;from u 40 to a rank 2;",
                "from u 9 to b rank 1;rest 1 to a;sold t 60 owed 7;lost u insured 5;debt 70;");
        // cash 63; t held: 63 and 50 and 5 less 70 are 48; 55 are due in 0: 43.6 and 4.4
        Checks.same("t held", house.ifHeld(0), 44);
        // u held: 63 and 7 and 30 less 70 are 30; 37 are due in 0: 5.7 and 24.3
        Checks.same("u held", house.ifHeld(2), 24);
        Checks.same("u held, nothing of it for the second", house.ifHeld(3), 0);
        house.set(1, 0);
        // of 100 7 and 30 in 0, 9 in 1, 10 in 2, 20 in 4
        Checks.same("u held", house.ifHeld(2), 40);
        Checks.same("u held", house.ifHeld(3), 9);
        Checks.same("t held", house.ifHeld(0), 50);
        Checks.same("as ahead", house.thing(0, 1), 1);
        Checks.same("as ahead", house.count(3), 63);
        house.renounce(0, true);
        Checks.same("what lapses gets nothing", house.ifHeld(0), 0);
        WillHouse worth = Checks.house("thing t 50;child a;give t to a;changed t 9999;lost t insured 0;rule worth;");
        Checks.same("with its worth as it was changed", worth.ifHeld(0), 9999);
        Checks.same("of one that is held", Checks.house("thing t 50;child a;give t to a;").ifHeld(0), 50);
        // with the rule, 10 in 4 bear interest; held, there is none
        WillHouse late = Checks.house("thing t 1200;cash 9999;child a;give t to a;lost t insured 0;rule worth;months 24;");
        Checks.same("as it is", late.gets(0, -1), 1260);
        Checks.same("held", late.ifHeld(0), 1200);
    }

    @Sentence(of = "Promise 35", says = "IllegalArgumentException: it is another one.")
    static void ifHeldOfAnother() {
        WillHouse house = house();
        Checks.noArgument("a sum", () -> house.ifHeld(1));
        Checks.noArgument("a rest", () -> house.ifHeld(3));
        Checks.same("a thing", house.ifHeld(0), 50);
        Checks.noIndexOutside("gift", 3, house::ifHeld);
    }

    @Sentence(of = "Promise 36", says = "The PERSON that lives, another one than it, whose death would make a PERSON TAKE most in all"
            + " (of several the first);")
    static void envied() {
        WillHouse house = house();
        Checks.row("envied by", house::envied, 1, 2, 0, 0);
        changesNothing(house, 0);
        house.die(0);
        // d for a takes 30, and all that is b's were b dead
        Checks.same("of d", house.envied(3), 1);
        Checks.same("of c, whom no death changes, the first that lives", house.envied(2), 1);
        Checks.same("of one who is dead the first that lives", house.envied(0), 1);
        WillHouse alike = Checks.house("cash 9;child a;child b;child c;");
        Checks.row("3 each; of several the first", alike::envied, 1, 0, 0);
        alike.set(1, 9);
        Checks.row("nothing at all", alike::envied, 1, 0, 0);
        Checks.same("of two", Checks.house("cash 9;child a;friend b;").envied(0), 1);
    }

    @Sentence(of = "Promise 36", says = "NONE: no other one lives.")
    static void nobodyEnvied() {
        Checks.same("alone", Checks.house("cash 9;child a;").envied(0), -1);
        WillHouse house = Checks.house("cash 9;child a;child b;dead b;");
        Checks.same("the other is dead", house.envied(0), -1);
        Checks.same("of the dead one", house.envied(1), 0);
        house.die(0);
        Checks.row("nobody lives", house::envied, -1, -1);
    }

    @Sentence(of = "Promise 37", says = "A PERSON is WRITTEN: how many bytes.")
    static void write() {
        WillHouse house = house();
        Checks.same("a", house.write(0), "a 30 1:30".length());
        Checks.same("octets", Checks.octets(house), "a 30 1:30");
        Checks.same("b", house.write(1), "b 110 0:50 3:60".length());
        Checks.same("octets", Checks.octets(house), "b 110 0:50 3:60");
        Checks.same("d", house.write(3), 3);
        Checks.same("octets", Checks.octets(house), "d 0");
        Checks.noIndexOutside("person", 3, house::write);
        Checks.same("a call that throws writes nothing", Checks.octets(house), "d 0");
        WillHouse most = Checks.house("cash 99999;child abcdef;thing t 9999;", "sum 9 to abcdef;".repeat(12));
        String due = "abcdef 109998 0:9 1:9 2:9 3:9 4:9 5:9 6:9 7:9 8:9 9:9 10:9 11:9 i:109890";
        Checks.same("of all gifts", most.write(0), due.length());
        Checks.same("octets", Checks.octets(most), due);
    }

    @Sentence(of = "Promise 38", says = "Byte k of what was WRITTEN latest;")
    static void octetOfTheLatest() {
        WillHouse house = house();
        house.write(1);
        house.write(0);
        Checks.row("octet", house::octet, 'a', ' ', '3', '0', ' ', '1', ':', '3', '0');
        house.set(1, 99999);
        Checks.same("as it was then", house.octet(2), '3');
        house.undo();
        house.read();
        Checks.same("though there is another text", house.octet(2), '3');
    }

    @Sentence(of = "Promise 38", says = "NONE without.")
    static void octetWithout() {
        WillHouse house = house();
        Checks.noneOutside("nothing written: octet", -1, house::octet);
        house.write(1);
        house.write(3);
        Checks.noneOutside("three bytes: octet", 2, house::octet);
        Checks.same("the last", house.octet(2), '0');
    }

    /** Full of THINGS, PERSONS, GIFTS. */
    private static WillHouse full() {
        return Checks.house(Checks.each("thing # 9;", 8), Checks.each("child #;", 12), "give a to a;", Checks.each("sum 1 to #;", 11),
                "cash 99999;");
    }

    /** A house of which each count is another number. */
    private static WillHouse mixed() {
        WillHouse house = Checks.house(Checks.each("thing # 9;", 6), "cash 41;debt 42;months 43;rate 44;rule worth;",
                "child pppppp;child q;child r;child s;", "friend t;friend u;friend v;friend w;friend x;friend y;",
                "sum 1 to pppppp;sum 1 to t;sum 1 to t;sum 1 to s;", "sum 1 to q;sum 1 to q;", "sum 1 to r;".repeat(3),
                "dead s;dead t;dead u;lost a insured 0;lost b insured 0;");
        house.renounce(4, true);
        house.renounce(5, true);
        for (int act = 3; act <= 11; act++) {
            house.set(1, 42);
        }
        // "pppppp 11 0:2 i:9"
        house.write(0);
        return house;
    }

    private static void count(int what, int empty, int mixed, int full) {
        Checks.same("count " + what + " of an empty house", new WillHouse().count(what), empty);
        Checks.same("count " + what + " of a house", mixed().count(what), mixed);
        Checks.same("count " + what + " of a full house", full().count(what), full);
    }

    @Sentence(of = "Promise 39", says = "0 THINGS,")
    static void countThings() {
        count(0, 0, 6, 8);
    }

    @Sentence(of = "Promise 39", says = "1 PERSONS,")
    static void countPersons() {
        count(1, 0, 10, 12);
    }

    @Sentence(of = "Promise 39", says = "2 GIFTS,")
    static void countGifts() {
        count(2, 0, 9, 12);
    }

    @Sentence(of = "Promise 39", says = "3 cash,")
    static void countCash() {
        count(3, 0, 41, 99999);
    }

    @Sentence(of = "Promise 39", says = "4 debt,")
    static void countDebt() {
        count(4, 0, 42, 0);
        WillHouse house = full();
        house.set(1, 99999);
        Checks.same("debt", house.count(4), 99999);
        Checks.same("above all that is there", Checks.house("debt 99999;").count(4), 99999);
    }

    @Sentence(of = "Promise 39", says = "5 months,")
    static void countMonths() {
        count(5, 0, 43, 0);
        WillHouse house = full();
        house.set(2, 240);
        Checks.same("months", house.count(5), 240);
    }

    @Sentence(of = "Promise 39", says = "6 rate,")
    static void countRate() {
        count(6, 5, 44, 5);
        WillHouse house = full();
        house.set(3, 99);
        Checks.same("rate", house.count(6), 99);
        house.set(3, 0);
        Checks.same("none", house.count(6), 0);
    }

    @Sentence(of = "Promise 39", says = "7 RULE (1 WORTH, 0),")
    static void countRule() {
        count(7, 0, 1, 0);
        WillHouse house = full();
        house.set(4, 1);
        Checks.same("worth", house.count(7), 1);
        house.set(4, 0);
        Checks.same("none", house.count(7), 0);
    }

    @Sentence(of = "Promise 39", says = "8 PERSONS that live,")
    static void countLiving() {
        count(8, 0, 7, 12);
        WillHouse house = full();
        for (int person = 0; person < 12; person++) {
            house.die(person);
            Checks.same("living", house.count(8), 11 - person);
        }
    }

    @Sentence(of = "Promise 39", says = "9 THINGS that are HELD,")
    static void countHeld() {
        count(9, 0, 4, 8);
        WillHouse house = full();
        for (int thing = 0; thing < 8; thing += 2) {
            house.sell(thing, 1, 1);
            house.lose(thing + 1, 1);
            Checks.same("held", house.count(9), 6 - thing);
        }
    }

    @Sentence(of = "Promise 39", says = "10 GIFTS that LAPSE,")
    static void countLapsed() {
        count(10, 0, 5, 0);
        WillHouse house = full();
        house.die(0);
        Checks.same("two of a", house.count(10), 2);
        house.renounce(0, true);
        Checks.same("no more", house.count(10), 2);
        for (int gift = 1; gift < 12; gift++) {
            house.renounce(gift, true);
        }
        Checks.same("all", house.count(10), 12);
    }

    @Sentence(of = "Promise 39", says = "11 HEIRS,")
    static void countHeirs() {
        count(11, 0, 3, 12);
        WillHouse house = full();
        house.die(11);
        Checks.same("one less", house.count(11), 11);
    }

    @Sentence(of = "Promise 39", says = "12 ACTS that can be undone,")
    static void countActs() {
        count(12, 0, 11, 0);
        WillHouse house = full();
        for (int act = 1; act <= 18; act++) {
            house.set(1, act);
            Checks.same("acts", house.count(12), Math.min(16, act));
        }
        house.undo();
        Checks.same("acts", house.count(12), 15);
    }

    @Sentence(of = "Promise 39", says = "13 bytes WRITTEN,")
    static void countBytes() {
        count(13, 0, 17, 0);
        WillHouse house = full();
        house.write(11);
        Checks.same("l and what it takes of intestate", house.count(13), "l 8338 i:8338".length());
        house.set(0, 0);
        house.set(1, 99999);
        Checks.same("of what was written then", house.count(13), 13);
        house.write(11);
        Checks.same("nothing", house.count(13), 3);
    }

    @Sentence(of = "Promise 39", says = "14 GIFTS that are RENOUNCED.")
    static void countRenounced() {
        count(14, 0, 2, 0);
        WillHouse house = full();
        house.die(0);
        Checks.same("those that lapse are not", house.count(14), 0);
        for (int gift = 0; gift < 12; gift++) {
            house.renounce(gift, true);
            Checks.same("renounced", house.count(14), gift + 1);
        }
        house.renounce(0, false);
        Checks.same("not any more", house.count(14), 11);
    }

    @Sentence(of = "Promise 39", says = "NONE for another what.")
    static void countNothingElse() {
        Checks.noneOutside("count", 14, new WillHouse()::count);
        Checks.noneOutside("count", 14, full()::count);
    }
}
