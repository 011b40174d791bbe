import java.util.List;
import java.util.function.Consumer;
import java.util.function.IntConsumer;

/** The paragraph on exceptions, on k below 0 and on the beginning, and how long an object is used: a test for each sentence. */
final class ThrownSentencesTest {
    public static void main(String[] names) throws IllegalAccessException {
        Sentences.run(ThrownSentencesTest.class, names);
    }

    /** Two THINGS (u LOST), three PERSONS (b dead), three GIFTS. */
    private static WillHouse small() {
        return Checks.house("thing t 9;thing u 9;cash 7;child a;friend b;issue c of a;give t to a;from u 5 to a;rest 1 to b;",
                "lost u insured 4;dead b;");
    }

    @Sentence(of = "What it is", says = "An object is used for at most 512 calls after it has been made;")
    static void fiveHundredAndTwelveCalls() {
        WillHouse house = new WillHouse();
        for (int call = 1; call < 511; call++) {
            Checks.same("set in call " + call, house.set(0, call), call - 1);
        }
        Checks.same("undo in call 511", house.undo(), 15);
        Checks.same("cash in call 512", house.count(3), 509);
        // texts as long as there may be, one read after the other, need as many calls of feed
        WillHouse reader = new WillHouse();
        for (int call = 22; call <= 512; call += 22) {
            Checks.feed(reader, "child a;" + " ".repeat(385) + "cash 7;");
            Checks.same("read in call " + call, reader.read(), 0);
        }
    }

    @Sentence(of = "Exceptions", says = "Of several exceptions the one told first is thrown;")
    static void firstOfSeveralExceptions() {
        WillHouse house = small();
        Checks.noIndex("thing", () -> house.thing(2, 5));
        Checks.noIndex("person", () -> house.person(3, 6));
        Checks.noIndex("gift", () -> house.gift(3, 7));
        Checks.noIndex("sell", () -> house.sell(2, 0, 0));
        Checks.noArgument("sell", () -> house.sell(1, 0, 0));
        Checks.noArgument("sell", () -> house.sell(1, 5, 6));
        Checks.noIndex("change", () -> house.change(2, 0));
        Checks.noArgument("change", () -> house.change(1, 0));
        Checks.noIndex("lose", () -> house.lose(2, -1));
        Checks.noArgument("lose", () -> house.lose(1, -1));
        Checks.noElement("set", () -> house.set(5, -1));
        Checks.noIndex("due", () -> house.due(3, 7));
        Checks.noIndex("gets", () -> house.gets(3, 7));
        Checks.noArgument("classed", () -> house.classed(7, 3));
        Checks.noIndex("taken", () -> house.taken(3, 3));
        Checks.noIndex("ifDead", () -> house.ifDead(3, 1));
        Checks.noIndex("ifSold, nobody", () -> house.ifSold(3, 1, 0, 0));
        Checks.noIndex("ifSold, no thing", () -> house.ifSold(0, 2, 0, 0));
        Checks.noArgument("ifSold", () -> house.ifSold(0, 1, 0, 0));
        Checks.noIndex("ifDebt", () -> house.ifDebt(3, -1));
    }

    private static void changesNothing(String what, Consumer<WillHouse> call) {
        WillHouse house = small();
        house.set(1, 3);
        house.write(0);
        house.feed(0, 0, 0, 0, 0);
        WillHouse same = small();
        same.set(1, 3);
        same.write(0);
        Checks.same(what + " throws", Answers.outcome(() -> {
            call.accept(house);
            return 0;
        }).startsWith("throws") ? 1 : 0, 1);
        Checks.same("after " + what, Answers.of(house), Answers.of(same));
        Checks.no(what + " leaves the TAPE as long as it is", house.end(21));
        Checks.yes(what + " leaves the TAPE", house.end(20));
    }

    @Sentence(of = "Exceptions", says = "a call that throws changes nothing")
    static void throwingChangesNothing() {
        List<Consumer<WillHouse>> calls = List.of(
                house -> house.sell(0, 0, 0), house -> house.sell(0, 5, 6), house -> house.sell(1, 5, 4),
                house -> house.sell(2, 5, 4), house -> house.change(0, 0), house -> house.change(0, 10000),
                house -> house.change(1, 5), house -> house.lose(0, -1), house -> house.lose(0, 10000),
                house -> house.lose(1, 5), house -> house.die(1), house -> house.die(3),
                house -> house.renounce(3, true), house -> house.set(0, -1), house -> house.set(1, 100000),
                house -> house.set(2, 241), house -> house.set(3, 100), house -> house.set(4, 2), house -> house.set(5, 1),
                house -> house.write(3), house -> house.ifDead(0, 1), house -> house.ifSold(0, 1, 5, 5),
                house -> house.ifDebt(0, -1), house -> house.ifRenounced(0, 3), house -> house.ifHeld(2),
                house -> house.envied(3));
        for (int i = 0; i < calls.size(); i++) {
            changesNothing("call " + i, calls.get(i));
        }
        WillHouse rich = Checks.house("thing t 9;cash 99999;");
        Checks.noState("too much cash", () -> rich.sell(0, 5, 4));
        Checks.same("cash", rich.count(3), 99999);
        Checks.same("held", rich.thing(0, 1), 0);
        Checks.same("acts", rich.count(12), 0);
    }

    @Sentence(of = "Exceptions", says = "but the TAPE, where it is used up, and fault(), where a text is read.")
    static void wrongTextUsesUpTheTape() {
        // wrong in its last LINE, so that all LINES ahead have been looked at
        String wrong = "thing x 1;child y;cash 99;debt 98;months 97;rate 96;rule worth;give x to y;sold x 1 owed 0;dead y;?";
        WillHouse house = small();
        house.set(1, 3);
        house.write(0);
        Checks.feed(house, wrong);
        Checks.noArgument("read", house::read);
        Checks.same("fault", house.fault(), wrong.length() - 1);
        Checks.no("the TAPE is used up", house.end(1));
        Checks.same("acts", house.count(12), 1);
        WillHouse same = small();
        same.set(1, 3);
        same.write(0);
        Checks.same("all but fault", Answers.of(house).replace("fault " + (wrong.length() - 1), "fault -1"), Answers.of(same));
        Checks.same("what can be undone", house.undo(), 0);
        Checks.same("debt", house.count(4), 0);
    }

    /** The call is asked for numbers next to those that are there, and for the last one that is. */
    private static void noSuch(String what, int count, IntConsumer call) {
        Checks.noIndexOutside(what, count - 1, call);
        if (count > 0) {
            Checks.same(what + ", the last one", Answers.outcome(() -> {
                call.accept(count - 1);
                return 0;
            }), "0");
        }
    }

    private static void noSuchThing(WillHouse house, int things) {
        noSuch("name", things, i -> house.name(false, i, 0));
        noSuch("thing", things, i -> house.thing(i, 0));
        noSuch("left", things, house::left);
        noSuch("change", things, i -> house.change(i, 5));
        noSuch("sell", things, i -> house.sell(i, 5, 5));
        house.undo();
        noSuch("lose", things, i -> house.lose(i, 5));
    }

    @Sentence(of = "Exceptions", says = "IndexOutOfBoundsException: there is no such THING, PERSON, GIFT.")
    static void noSuchThing() {
        noSuchThing(new WillHouse(), 0);
        noSuchThing(Checks.house(Checks.each("child #;", 12), "thing a 9;"), 1);
        WillHouse full = Checks.house(Checks.each("thing # 9;", 8), "child p;");
        noSuchThing(full, 8);
        full.undo();
        noSuch("ifSold", 8, i -> full.ifSold(0, i, 5, 5));
    }

    private static void noSuchPerson(WillHouse house, int persons) {
        noSuch("name", persons, i -> house.name(true, i, 0));
        noSuch("person", persons, i -> house.person(i, 0));
        noSuch("taken", persons, i -> house.taken(i, 0));
        noSuch("stock", persons, i -> house.stock(i, 0));
        noSuch("ifDebt", persons, i -> house.ifDebt(i, 0));
        noSuch("envied", persons, house::envied);
        noSuch("write", persons, house::write);
        noSuch("die", persons, house::die);
    }

    @Sentence(of = "Exceptions", says = "IndexOutOfBoundsException: there is no such THING, PERSON, GIFT.")
    static void noSuchPerson() {
        noSuchPerson(new WillHouse(), 0);
        noSuchPerson(Checks.house(Checks.each("thing # 9;", 8), "child p;"), 1);
        WillHouse full = Checks.house(Checks.each("child #;", 12), "thing t 9;sum 5 to a;");
        noSuchPerson(full, 12);
        full.undo();
        noSuch("takes", 12, i -> full.takes(0, i));
        noSuch("ifDead, who takes", 12, i -> full.ifDead(i, 0));
        noSuch("ifDead, who dies", 12, i -> full.ifDead(0, i));
        noSuch("ifSold", 12, i -> full.ifSold(i, 0, 5, 5));
        noSuch("ifRenounced", 12, i -> full.ifRenounced(i, 0));
    }

    private static void noSuchGift(WillHouse house, int gifts) {
        noSuch("gift", gifts, i -> house.gift(i, 0));
        noSuch("due", gifts, i -> house.due(i, 0));
        noSuch("gets", gifts, i -> house.gets(i, 0));
        noSuch("gets in all", gifts, i -> house.gets(i, -1));
        noSuch("itself", gifts, house::itself);
        noSuch("part", gifts, house::part);
        noSuch("ifHeld", gifts, house::ifHeld);
        noSuch("renounce", gifts, i -> house.renounce(i, true));
    }

    @Sentence(of = "Exceptions", says = "IndexOutOfBoundsException: there is no such THING, PERSON, GIFT.")
    static void noSuchGift() {
        noSuchGift(new WillHouse(), 0);
        noSuchGift(Checks.house(Checks.each("child #;", 12), "thing a 9;give a to a;"), 1);
        WillHouse full = Checks.house("thing t 9;child a;", "sum 1 to a;".repeat(11), "give t to a;");
        noSuchGift(full, 12);
        noSuch("takes", 12, i -> full.takes(i, 0));
        noSuch("ifRenounced", 12, i -> full.ifRenounced(0, i));
    }

    @Sentence(of = "Exceptions", says = "IllegalArgumentException: a number is none; a text is wrong.")
    static void illegalArguments() {
        WillHouse house = small();
        for (int far : new int[] {Integer.MIN_VALUE, -1, 10000, Integer.MAX_VALUE}) {
            Checks.noArgument("price", () -> house.sell(0, far, 0));
            Checks.noArgument("owed", () -> house.sell(0, 9999, far));
            Checks.noArgument("both", () -> house.sell(0, far, far));
            Checks.noArgument("worth", () -> house.change(0, far));
            Checks.noArgument("insured", () -> house.lose(0, far));
            Checks.noArgument("due", () -> house.due(0, far));
            Checks.noArgument("classed", () -> house.classed(far, 0));
            Checks.noArgument("leastDebt", () -> house.leastDebt(far));
            Checks.noArgument("needed", () -> house.needed(far));
            Checks.noArgument("ifSold", () -> house.ifSold(0, 0, far, 0));
            Checks.noArgument("ifSold", () -> house.ifSold(0, 0, 9999, far));
        }
        for (int far : new int[] {Integer.MIN_VALUE, -1, 100000, Integer.MAX_VALUE}) {
            Checks.noArgument("ifDebt", () -> house.ifDebt(0, far));
            for (int what = 0; what <= 4; what++) {
                int told = what;
                Checks.noArgument("set", () -> house.set(told, far));
            }
        }
        Checks.noArgument("itself", () -> house.itself(1));
        Checks.noArgument("ifHeld", () -> house.ifHeld(2));
        Checks.feed(house, "?");
        Checks.noArgument("read", house::read);
    }

    @Sentence(of = "Exceptions", says = "NoSuchElementException: there is none such, another what.")
    static void noSuchElements() {
        WillHouse house = small();
        Checks.noElementOutside("thing", 4, what -> house.thing(0, what));
        Checks.noElementOutside("person", 5, what -> house.person(0, what));
        Checks.noElementOutside("gift", 6, what -> house.gift(0, what));
        Checks.noElementOutside("set", 4, what -> house.set(what, 1));
        Checks.noElementOutside("estate", 7, house::estate);
        Checks.noElementOutside("classed", 2, what -> house.classed(0, what));
        Checks.noElementOutside("taken", 2, what -> house.taken(0, what));
    }

    @Sentence(of = "Exceptions", says = "IllegalStateException: it cannot be.")
    static void illegalStates() {
        WillHouse house = small();
        Checks.noState("sell of a lost thing", () -> house.sell(1, 5, 5));
        Checks.noState("change of a lost thing", () -> house.change(1, 5));
        Checks.noState("lose of a lost thing", () -> house.lose(1, 5));
        Checks.noState("ifSold of a lost thing", () -> house.ifSold(0, 1, 5, 5));
        Checks.noState("die of the dead", () -> house.die(1));
        Checks.noState("ifDead of the dead", () -> house.ifDead(0, 1));
        house.set(0, 99999);
        Checks.noState("sell above 99999", () -> house.sell(0, 5, 4));
        Checks.noState("ifSold above 99999", () -> house.ifSold(0, 0, 5, 4));
    }

    @Sentence(of = "Exceptions", says = "A k below 0 tells NONE.")
    static void belowZero() {
        WillHouse house = small();
        house.write(0);
        for (int k : new int[] {-1, -2, -65536, Integer.MIN_VALUE}) {
            Checks.same("name of a person", house.name(true, 0, k), -1);
            Checks.same("name of a thing", house.name(false, 0, k), -1);
            Checks.same("stock", house.stock(0, k), -1);
            Checks.same("heir", house.heir(k), -1);
            Checks.same("ranked", house.ranked(k), -1);
            Checks.same("octet", house.octet(k), -1);
        }
        Checks.noIndex("of nobody", () -> house.name(true, 3, -1));
        Checks.noIndex("of nobody", () -> house.stock(3, -1));
    }

    @Sentence(of = "Exceptions", says = "At first there is none of all (rate 5).")
    static void atFirst() {
        WillHouse house = new WillHouse();
        Checks.row("count", house::count, 0, 0, 0, 0, 0, 0, 5, 0, 0, 0, 0, 0, 0, 0, 0);
        Checks.row("estate", house::estate, 0, 0, 0, 0, 0, 0, 0, -1);
        Checks.same("rate", house.set(3, 7), 5);
        // at first of each text, too
        house.read();
        Checks.same("rate", house.count(6), 5);
    }
}
