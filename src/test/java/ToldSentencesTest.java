/** Promises 7 to 9: what is told of a THING, a PERSON, a GIFT, a test for each sentence. */
final class ToldSentencesTest {
    public static void main(String[] names) throws IllegalAccessException {
        Sentences.run(ToldSentencesTest.class, names);
    }

    /** a and b HELD, c SOLD, d SOLD for all OWED, e LOST, f LOST and not INSURED. */
    private static WillHouse things() {
        return Checks.house("thing a 1;thing b 9999;thing c 30;thing d 40;thing e 50;thing f 60;changed b 20;",
                "sold c 7 owed 0;sold d 9999 owed 9999;lost e insured 9999;lost f insured 0;");
    }

    private static void things(int what, int... due) {
        WillHouse house = things();
        Checks.row("what " + what + " of thing", thing -> house.thing(thing, what), due);
    }

    @Sentence(of = "Promise 7", says = "Of a THING what 0 WORTH,")
    static void worthOfThings() {
        things(0, 1, 20, 30, 40, 50, 60);
        WillHouse house = things();
        house.sell(0, 9, 0);
        house.change(1, 9999);
        house.lose(1, 0);
        Checks.row("worth of thing", thing -> house.thing(thing, 0), 1, 9999);
    }

    @Sentence(of = "Promise 7", says = "1 0 HELD, 1 SOLD, 2 LOST,")
    static void stateOfThings() {
        things(1, 0, 0, 1, 1, 2, 2);
    }

    @Sentence(of = "Promise 7", says = "2 what it was SOLD for (NONE),")
    static void priceOfThings() {
        things(2, -1, -1, 7, 9999, -1, -1);
        WillHouse house = things();
        house.sell(0, 1, 1);
        Checks.same("sold for 1", house.thing(0, 2), 1);
        house.undo();
        Checks.same("not sold any more", house.thing(0, 2), -1);
        house.lose(0, 5);
        Checks.same("lost", house.thing(0, 2), -1);
        Checks.row("price of thing", thing -> allSold().thing(thing, 2), 11, 12, 13, 14, 15, 16, 17, 18);
    }

    /** As many THINGS, PERSONS and GIFTS as there may be, the THINGS SOLD for 11 to 18, OWED 1 to 8. */
    private static WillHouse allSold() {
        WillHouse house = Checks.house(Checks.each("thing # 9;", 8), Checks.each("child #;", 12), Checks.each("sum 1 to #;", 12));
        for (int thing = 0; thing < 8; thing++) {
            house.sell(thing, 11 + thing, 1 + thing);
        }
        return house;
    }

    @Sentence(of = "Promise 7", says = "3 what is OWED, INSURED (NONE: HELD),")
    static void owedOrInsured() {
        things(3, -1, -1, 0, 9999, 9999, 0);
        WillHouse house = things();
        house.sell(0, 1, 1);
        Checks.same("owed", house.thing(0, 3), 1);
        house.undo();
        Checks.same("held again", house.thing(0, 3), -1);
        Checks.row("owed of thing", thing -> allSold().thing(thing, 3), 1, 2, 3, 4, 5, 6, 7, 8);
    }

    @Sentence(of = "Promise 7", says = "4 what it BRINGS.")
    static void broughtByThings() {
        things(4, 1, 20, 0, 9999, 9999, 0);
    }

    @Sentence(of = "Promise 7", says = "NoSuchElementException: another what.")
    static void nothingElseOfThings() {
        WillHouse house = things();
        Checks.noElementOutside("thing held, what", 4, what -> house.thing(0, what));
        Checks.noElementOutside("thing sold, what", 4, what -> house.thing(2, what));
    }

    /** a, a child, dead; b, a friend; c of a; d of b, dead; e of c; f, a child, dead. */
    private static WillHouse persons() {
        return Checks.house("child a;friend b;issue c of a;issue d of b;issue e of c;child f;dead a;dead d;dead f;");
    }

    private static void persons(int what, int... due) {
        WillHouse house = persons();
        Checks.row("what " + what + " of person", person -> house.person(person, what), due);
    }

    @Sentence(of = "Promise 8", says = "Of a PERSON what 0 PARENT (NONE),")
    static void parentOfPersons() {
        persons(0, -1, -1, 0, 1, 2, -1);
    }

    @Sentence(of = "Promise 8", says = "1 1 a child, else 0,")
    static void children() {
        persons(1, 1, 0, 0, 0, 0, 1);
    }

    @Sentence(of = "Promise 8", says = "2 1 KIN, else 0,")
    static void kin() {
        persons(2, 1, 0, 1, 0, 1, 1);
    }

    @Sentence(of = "Promise 8", says = "3 1 dead, else 0,")
    static void dead() {
        persons(3, 1, 0, 0, 1, 0, 1);
        WillHouse house = persons();
        house.die(1);
        Checks.same("dead now", house.person(1, 3), 1);
        house.undo();
        Checks.same("not any more", house.person(1, 3), 0);
        // each by itself, also in a full house
        WillHouse full = allSold();
        full.die(0);
        full.die(11);
        Checks.row("dead", person -> full.person(person, 3), 1, 0, 0, 0, 0, 0, 0, 0, 0, 0, 0, 1);
        Checks.same("owed as ahead", full.thing(7, 3), 8);
        Checks.same("not renounced", full.count(14), 0);
    }

    @Sentence(of = "Promise 8", says = "4 1 if its STOCK is EMPTY, else 0,")
    static void emptyStocks() {
        persons(4, 0, 0, 0, 1, 0, 1);
        WillHouse house = persons();
        house.die(2);
        Checks.same("e is left", house.person(0, 4), 0);
        house.die(4);
        Checks.same("nobody is left", house.person(0, 4), 1);
    }

    @Sentence(of = "Promise 8", says = "5 how many live in its STOCK.")
    static void livingInStocks() {
        persons(5, 1, 1, 1, 0, 1, 0);
        StringBuilder text = new StringBuilder("child a;");
        for (char name = 'b'; name <= 'l'; name++) {
            text.append("issue ").append(name).append(" of a;");
        }
        WillHouse house = Checks.house(text.toString());
        Checks.same("a alone", house.person(0, 5), 1);
        house.die(0);
        Checks.same("as many as there may be", house.person(0, 5), 11);
        house.die(11);
        Checks.same("the last is dead", house.person(0, 5), 10);
    }

    @Sentence(of = "Promise 8", says = "NoSuchElementException: another what.")
    static void nothingElseOfPersons() {
        WillHouse house = persons();
        Checks.noElementOutside("person what", 5, what -> house.person(0, what));
        Checks.noElementOutside("person what", 5, what -> house.person(5, what));
    }

    /** Of each kind one, and of a sum and a DEMONSTRATIVE gift one without a rank; b is SOLD, c LOST. */
    private static WillHouse gifts() {
        return Checks.house("thing a 9;thing b 9;thing c 9;thing d 9;child p;friend q;rest 9 to q;sum 9999 to p rank 1;give b to q;",
                "from d 1 to p rank 3;sum 1 to q;from d 9999 to q;give a to p;give c to p;rest 1 to p;sold b 5 owed 4;",
                "lost c insured 0;dead q;");
    }

    private static void gifts(int what, int... due) {
        WillHouse house = gifts();
        Checks.row("what " + what + " of gift", gift -> house.gift(gift, what), due);
    }

    @Sentence(of = "Promise 9", says = "Of a GIFT what 0 0 SPECIFIC, 1 GENERAL, 2 DEMONSTRATIVE, 3 rest,")
    static void kindOfGifts() {
        gifts(0, 3, 1, 0, 2, 1, 2, 0, 0, 3);
    }

    @Sentence(of = "Promise 9", says = "1 PERSON,")
    static void personOfGifts() {
        gifts(1, 1, 0, 1, 0, 1, 1, 0, 0, 0);
    }

    @Sentence(of = "Promise 9", says = "2 THING or FUND (NONE),")
    static void thingOfGifts() {
        gifts(2, -1, -1, 1, 3, -1, 3, 0, 2, -1);
    }

    @Sentence(of = "Promise 9", says = "3 sum, SHARES (SPECIFIC: NONE),")
    static void sumOfGifts() {
        gifts(3, 9, 9999, -1, 1, 1, 9999, -1, -1, 1);
    }

    @Sentence(of = "Promise 9", says = "4 RANK (NONE),")
    static void rankOfGifts() {
        gifts(4, -1, 1, -1, 3, 4, 4, -1, -1, -1);
    }

    @Sentence(of = "Promise 9", says = "5 1 if it LAPSES, else 0,")
    static void lapsedGifts() {
        gifts(5, 1, 0, 1, 0, 1, 1, 0, 0, 0);
        WillHouse house = gifts();
        house.renounce(6, true);
        Checks.same("renounced", house.gift(6, 5), 1);
        house.renounce(6, false);
        Checks.same("not any more", house.gift(6, 5), 0);
    }

    @Sentence(of = "Promise 9", says = "6 0 not ADEEMED, 1 in part, 2 wholly.")
    static void adeemedGifts() {
        gifts(6, 0, 0, 1, 0, 0, 0, 0, 2, 0);
        WillHouse house = gifts();
        house.renounce(7, true);
        Checks.same("though it lapses", house.gift(7, 6), 2);
        house.lose(3, 0);
        Checks.same("a fund is not", house.gift(3, 6), 0);
    }

    @Sentence(of = "Promise 9", says = "NoSuchElementException: another what.")
    static void nothingElseOfGifts() {
        WillHouse house = gifts();
        for (int gift = 0; gift < 4; gift++) {
            int of = gift;
            Checks.noElementOutside("gift " + gift + " what", 6, what -> house.gift(of, what));
        }
    }
}
