/** Promises 10 to 16: sell, change, lose, die, renounce, set, undo, a test for each sentence. */
final class ActSentencesTest {
    public static void main(String[] names) throws IllegalAccessException {
        Sentences.run(ActSentencesTest.class, names);
    }

    private static WillHouse things() {
        return Checks.house(Checks.each("thing # 50;", 8), "cash 100;lost g insured 1;sold h 1 owed 1;");
    }

    @Sentence(of = "Promise 10", says = "A THING is SOLD for a price (1 to 9999),")
    static void soldForAPrice() {
        WillHouse house = things();
        house.sell(0, 1, 1);
        house.sell(1, 9999, 9999);
        Checks.row("state of", thing -> house.thing(thing, 1), 1, 1, 0);
        Checks.row("price of", thing -> house.thing(thing, 2), 1, 9999, -1);
        Checks.row("worth stays", thing -> house.thing(thing, 0), 50, 50, 50);
        Checks.noArgument("0", () -> house.sell(2, 0, 0));
        Checks.noArgument("10000", () -> house.sell(2, 10000, 0));
    }

    @Sentence(of = "Promise 10", says = "OWED of it: cash then.")
    static void cashThen() {
        WillHouse house = things();
        Checks.same("nothing owed", house.sell(0, 40, 0), 140);
        Checks.same("some owed", house.sell(1, 40, 39), 141);
        Checks.same("all owed", house.sell(2, 40, 40), 141);
        Checks.same("the least", house.sell(3, 1, 0), 142);
        Checks.same("the most", house.sell(4, 9999, 0), 10141);
        Checks.same("cash", house.count(3), 10141);
        Checks.row("owed", thing -> house.thing(thing, 3), 0, 39, 40, 0, 0);
    }

    @Sentence(of = "Promise 10", says = "IllegalArgumentException: a number is none;")
    static void noPriceNoOwed() {
        WillHouse house = things();
        int[][] wrong = {{0, 0}, {-1, -1}, {-5, -9}, {10000, 10000}, {10000, 0}, {5, 6}, {5, -1}, {9999, 10000}, {1, 2},
            {Integer.MAX_VALUE, Integer.MAX_VALUE}, {Integer.MIN_VALUE, Integer.MIN_VALUE}, {5, Integer.MAX_VALUE},
            {5, Integer.MIN_VALUE}, {Integer.MAX_VALUE, 0}, {Integer.MIN_VALUE, 0}};
        for (int[] one : wrong) {
            Checks.noArgument("sell for " + one[0] + " owed " + one[1], () -> house.sell(0, one[0], one[1]));
        }
        Checks.same("no act", house.count(12), 0);
        Checks.same("held", house.thing(0, 1), 0);
    }

    @Sentence(of = "Promise 10", says = "IllegalStateException: it is not HELD, cash would be above 99999.")
    static void notHeldOrTooMuchCash() {
        WillHouse house = things();
        Checks.noState("lost", () -> house.sell(6, 5, 5));
        Checks.noState("sold", () -> house.sell(7, 5, 5));
        house.set(0, 99995);
        Checks.noState("100000", () -> house.sell(0, 5, 0));
        Checks.noState("100000", () -> house.sell(0, 9999, 9994));
        Checks.noState("far above", () -> house.sell(0, 9999, 0));
        Checks.same("99999", house.sell(0, 5, 1), 99999);
        Checks.same("all owed", house.sell(1, 5, 5), 99999);
        Checks.noState("100000", () -> house.sell(2, 1, 0));
        Checks.same("acts", house.count(12), 3);
    }

    @Sentence(of = "Promise 11", says = "A THING is changed: its WORTH until now.")
    static void worthUntilNow() {
        WillHouse house = things();
        Checks.same("as it was told", house.change(0, 9999), 50);
        Checks.same("as it was changed", house.change(0, 1), 9999);
        Checks.same("to the same", house.change(0, 1), 1);
        Checks.row("worth", thing -> house.thing(thing, 0), 1, 50);
        Checks.same("brings", house.thing(0, 4), 1);
    }

    @Sentence(of = "Promise 11", says = "IllegalArgumentException: WORTH (1 to 9999) is none;")
    static void noWorth() {
        WillHouse house = things();
        for (int worth : new int[] {0, -1, 10000, 10001, Integer.MAX_VALUE, Integer.MIN_VALUE}) {
            Checks.noArgument("change to " + worth, () -> house.change(0, worth));
        }
        Checks.same("worth", house.thing(0, 0), 50);
        Checks.same("no act", house.count(12), 0);
    }

    @Sentence(of = "Promise 11", says = "IllegalStateException: it is not HELD.")
    static void changedNotHeld() {
        WillHouse house = things();
        Checks.noState("lost", () -> house.change(6, 5));
        Checks.noState("sold", () -> house.change(7, 5));
        Checks.same("worth", house.thing(6, 0), 50);
        house.lose(0, 5);
        Checks.noState("lost", () -> house.change(0, 5));
        house.undo();
        Checks.same("held again", house.change(0, 5), 50);
    }

    @Sentence(of = "Promise 12", says = "A THING is LOST, INSURED for so much (0 to 9999): its WORTH.")
    static void lostForSoMuch() {
        WillHouse house = things();
        Checks.same("insured for nothing", house.lose(0, 0), 50);
        Checks.same("insured for 1", house.lose(1, 1), 50);
        house.change(2, 61);
        Checks.same("insured for the most", house.lose(2, 9999), 61);
        Checks.row("state of", thing -> house.thing(thing, 1), 2, 2, 2, 0);
        Checks.row("insured", thing -> house.thing(thing, 3), 0, 1, 9999, -1);
        Checks.same("cash", house.count(3), 100);
    }

    @Sentence(of = "Promise 12", says = "IllegalArgumentException: a number is none;")
    static void noInsurance() {
        WillHouse house = things();
        for (int insured : new int[] {-1, -2, 10000, Integer.MAX_VALUE, Integer.MIN_VALUE}) {
            Checks.noArgument("lose insured for " + insured, () -> house.lose(0, insured));
        }
        Checks.same("held", house.thing(0, 1), 0);
        Checks.same("no act", house.count(12), 0);
    }

    @Sentence(of = "Promise 12", says = "IllegalStateException: it is not HELD.")
    static void lostNotHeld() {
        WillHouse house = things();
        Checks.noState("lost", () -> house.lose(6, 5));
        Checks.noState("sold", () -> house.lose(7, 5));
        Checks.same("insured", house.thing(6, 3), 1);
        house.sell(0, 5, 5);
        Checks.noState("sold", () -> house.lose(0, 5));
        house.undo();
        Checks.same("held again", house.lose(0, 5), 50);
    }

    @Sentence(of = "Promise 13", says = "A PERSON dies: how many live.")
    static void howManyLive() {
        WillHouse house = Checks.house(Checks.each("child #;", 11), "friend z;dead b;");
        Checks.same("the first", house.die(0), 10);
        for (int person = 11; person > 2; person--) {
            Checks.same("one more", house.die(person), person - 2);
        }
        Checks.same("the last", house.die(2), 0);
        Checks.same("dead", house.person(2, 3), 1);
    }

    @Sentence(of = "Promise 13", says = "IllegalStateException: it is dead.")
    static void deadAlready() {
        WillHouse house = Checks.house("child a;friend b;dead b;");
        Checks.noState("told dead", () -> house.die(1));
        house.die(0);
        Checks.noState("died", () -> house.die(0));
        Checks.same("acts", house.count(12), 1);
        house.undo();
        Checks.same("lives again", house.die(0), 0);
    }

    @Sentence(of = "Promise 14", says = "A GIFT is RENOUNCED, or not (any more): whether it was.")
    static void whetherItWas() {
        WillHouse house = Checks.house("child a;" + "sum 5 to a;".repeat(12));
        Checks.no("at first", house.renounce(11, false));
        Checks.no("not yet", house.renounce(11, true));
        Checks.yes("already", house.renounce(11, true));
        Checks.no("another is not", house.renounce(0, true));
        Checks.same("two", house.count(14), 2);
        Checks.yes("it was", house.renounce(11, false));
        Checks.no("not any more", house.renounce(11, false));
        Checks.same("one", house.count(14), 1);
        WillHouse dead = Checks.house("friend a;dead a;sum 5 to a;");
        Checks.no("what lapses for death is not renounced", dead.renounce(0, true));
        Checks.yes("but can be", dead.renounce(0, true));
    }

    @Sentence(of = "Promise 15", says = "What is told (what 0 cash, 1 debt, 2 months, 3 rate, 4 RULE: 0 none, 1 WORTH): what it was.")
    static void whatItWas() {
        WillHouse house = Checks.house("cash 7;debt 8;months 9;rate 10;rule worth;");
        int[] told = {7, 8, 9, 10, 1};
        int[] most = {99999, 99999, 240, 99, 1};
        for (int what = 0; what <= 4; what++) {
            Checks.same("as told, what " + what, house.set(what, 0), told[what]);
            Checks.same("none, what " + what, house.set(what, most[what]), 0);
            Checks.same("the most, what " + what, house.set(what, most[what]), most[what]);
        }
        Checks.row("count of what", what -> house.count(3 + what), most);
    }

    @Sentence(of = "Promise 15", says = "NoSuchElementException: another what;")
    static void toldNothingElse() {
        WillHouse house = Checks.house("cash 7;");
        Checks.noElementOutside("set", 4, what -> house.set(what, 0));
        Checks.noElementOutside("set to none", 4, what -> house.set(what, -1));
        Checks.same("no act", house.count(12), 0);
    }

    @Sentence(of = "Promise 15", says = "IllegalArgumentException: it is none.")
    static void toldOutOfBounds() {
        WillHouse house = Checks.house("cash 7;debt 8;months 9;rate 10;rule worth;");
        int[] most = {99999, 99999, 240, 99, 1};
        for (int what = 0; what <= 4; what++) {
            int of = what;
            for (int v : new int[] {-1, -2, most[what] + 1, most[what] + 2, Integer.MAX_VALUE, Integer.MIN_VALUE}) {
                Checks.noArgument("set " + what + " to " + v, () -> house.set(of, v));
            }
        }
        Checks.row("count of what", what -> house.count(3 + what), 7, 8, 9, 10, 1);
        Checks.same("no act", house.count(12), 0);
    }

    @Sentence(of = "Promise 16", says = "The latest ACT is UNDONE: how many can be;")
    static void latestUndone() {
        WillHouse house = Checks.house("thing t 9;cash 5;child a;");
        house.set(0, 6);
        house.change(0, 8);
        house.set(0, 7);
        Checks.same("undo", house.undo(), 2);
        Checks.same("cash", house.count(3), 6);
        Checks.same("worth", house.thing(0, 0), 8);
        house.die(0);
        Checks.same("an act in its place", house.count(12), 3);
        Checks.same("undo", house.undo(), 2);
        Checks.same("undo", house.undo(), 1);
        Checks.same("worth", house.thing(0, 0), 9);
        Checks.same("undo", house.undo(), 0);
        Checks.same("cash", house.count(3), 5);
        for (int act = 0; act < 17; act++) {
            house.set(1, act);
        }
        Checks.same("of 17 16 are kept", house.undo(), 15);
    }

    @Sentence(of = "Promise 16", says = "NONE: there was none.")
    static void nothingUndone() {
        WillHouse house = new WillHouse();
        Checks.same("of nothing", house.undo(), -1);
        house.set(0, 5);
        house.undo();
        Checks.same("of all undone", house.undo(), -1);
        Checks.same("again", house.undo(), -1);
        house.set(0, 6);
        Checks.same("of one again", house.undo(), 0);
        WillHouse told = Checks.house("thing t 9;sold t 5 owed 5;child a;dead a;");
        Checks.same("what a text tells is no act", told.undo(), -1);
        Checks.same("sold", told.thing(0, 1), 1);
        told.set(0, 5);
        told.read();
        Checks.same("nor what was done ahead of it", told.undo(), -1);
    }
}
