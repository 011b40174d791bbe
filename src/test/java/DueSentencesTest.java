/** Promises 17 to 25: estate, due, gets, classed, itself, leastDebt, needed, part, left, a test for each sentence. */
final class DueSentencesTest {
    public static void main(String[] names) throws IllegalAccessException {
        Sentences.run(DueSentencesTest.class, names);
    }

    /** Brings 9, 5 (SOLD for cash 2) and 3 (LOST): with cash 100 117; DUE are 9 in 0, 20 in 1, 50 in 4. */
    private static WillHouse house() {
        return Checks.house("cash 98;thing t 9;thing u 9;thing v 9;child a;friend b;give t to a;sum 20 to b rank 1;sum 50 to a;",
                "sold u 7 owed 5;lost v insured 3;");
    }

    private static void estates(int what, int[] debts, int... due) {
        WillHouse house = house();
        for (int i = 0; i < debts.length; i++) {
            house.set(1, debts[i]);
            Checks.same("estate " + what + " by debt " + debts[i], house.estate(what), due[i]);
        }
    }

    @Sentence(of = "Promise 17", says = "0 ESTATE,")
    static void estate() {
        estates(0, new int[] {0, 117, 99999}, 117, 117, 117);
        Checks.same("of nothing", new WillHouse().estate(0), 0);
    }

    @Sentence(of = "Promise 17", says = "1 AVAILABLE,")
    static void available() {
        estates(1, new int[] {0, 1, 116, 117, 118, 99999}, 117, 116, 1, 0, 0, 0);
        Checks.same("of nothing", new WillHouse().estate(1), 0);
    }

    @Sentence(of = "Promise 17", says = "2 UNPAID,")
    static void unpaid() {
        estates(2, new int[] {0, 116, 117, 118, 99999}, 0, 0, 0, 1, 99882);
        Checks.same("of nothing", new WillHouse().estate(2), 0);
    }

    @Sentence(of = "Promise 17", says = "3 THE REST,")
    static void theRest() {
        estates(3, new int[] {0, 37, 38, 39, 99999}, 38, 1, 0, 0, 0);
        WillHouse house = house();
        house.set(2, 24);
        Checks.same("behind interest, too", house.estate(3), 35);
        Checks.same("parted by shares", Checks.house("cash 7;child a;rest 1 to a;").estate(3), 7);
        Checks.same("nobody's", Checks.house("cash 7;").estate(3), 7);
    }

    @Sentence(of = "Promise 17", says = "4 INTESTATE,")
    static void intestate() {
        estates(4, new int[] {0, 37, 38, 99999}, 38, 1, 0, 0);
        Checks.same("parted by shares", Checks.house("cash 7;child a;rest 1 to a;").estate(4), 0);
        Checks.same("nobody's", Checks.house("cash 7;friend b;").estate(4), 0);
        Checks.same("a share that lapses", Checks.house("cash 7;child a;friend b;dead b;rest 1 to b;").estate(4), 7);
    }

    @Sentence(of = "Promise 17", says = "5 BONA,")
    static void bona() {
        estates(5, new int[] {0, 38}, 0, 0);
        WillHouse house = house();
        house.die(0);
        // what t brings, and 50, are nobody's, too
        Checks.same("without heirs", house.estate(5), 97);
        house.set(1, 97);
        Checks.same("nothing is left", house.estate(5), 0);
        WillHouse shares = Checks.house("cash 7;friend b;rest 1 to b;");
        Checks.same("parted by shares", shares.estate(5), 0);
        shares.renounce(0, true);
        Checks.same("not any more", shares.estate(5), 7);
        shares.renounce(0, false);
        Checks.same("parted again", shares.estate(5), 0);
    }

    @Sentence(of = "Promise 17", says = "6 what all CLASSES 0 to 5 get,")
    static void whatClassesGet() {
        estates(6, new int[] {0, 38, 39, 88, 116, 117, 118}, 79, 79, 78, 29, 1, 0, 0);
        WillHouse house = house();
        house.set(2, 24);
        Checks.same("interest, too", house.estate(6), 82);
        Checks.same("not the rest", Checks.house("cash 7;child a;rest 1 to a;").estate(6), 0);
    }

    @Sentence(of = "Promise 17", says = "7 the CLASS that is CUT (of two the one that is paid first; NONE).")
    static void cutClass() {
        estates(7, new int[] {0, 38, 39, 88, 89, 108, 109, 99999}, -1, -1, 4, 4, 1, 1, 0, 0);
        WillHouse house = house();
        house.set(2, 24);
        house.set(1, 35);
        Checks.same("enough for interest", house.estate(7), -1);
        house.set(1, 36);
        Checks.same("interest", house.estate(7), 5);
        house.set(1, 38);
        Checks.same("nothing for interest", house.estate(7), 5);
        house.set(1, 39);
        Checks.same("4 and interest", house.estate(7), 4);
        Checks.same("nothing due", Checks.house("debt 9;child a;rest 1 to a;").estate(7), -1);
    }

    @Sentence(of = "Promise 17", says = "NoSuchElementException: another what.")
    static void nothingElseOfAnEstate() {
        Checks.noElementOutside("estate", 7, house()::estate);
        Checks.noElementOutside("estate of nothing", 7, new WillHouse()::estate);
    }

    @Sentence(of = "Promise 18", says = "DUE of a GIFT in a CLASS (0 to 6).")
    static void due() {
        WillHouse house = Checks.house("thing t 9;cash 2000;months 24;child a;from t 10 to a rank 1;sum 100 to a rank 3;rest 1 to a;");
        Checks.row("due in", kind -> house.due(0, kind), 9, 1, 0, 0, 0, 0, 0);
        Checks.row("due in", kind -> house.due(1, kind), 0, 0, 0, 100, 0, 5, 0);
        Checks.row("due in", kind -> house.due(2, kind), 0, 0, 0, 0, 0, 0, 1894);
        house.set(1, 99999);
        Checks.row("due though there is nothing, in", kind -> house.due(0, kind), 9, 1, 0, 0, 0, 0, 0);
        Checks.row("due though there is nothing, in", kind -> house.due(1, kind), 0, 0, 0, 100, 0, 0, 0);
        Checks.row("nothing is left, in", kind -> house.due(2, kind), 0, 0, 0, 0, 0, 0, 0);
    }

    @Sentence(of = "Promise 18", says = "IllegalArgumentException: the CLASS is none.")
    static void dueInNoClass() {
        WillHouse house = house();
        Checks.noArgumentOutside("due in", 6, kind -> house.due(0, kind));
        Checks.same("in 0", house.due(0, 0), 9);
        Checks.same("in 6", house.due(0, 6), 0);
    }

    @Sentence(of = "Promise 19", says = "What a GIFT gets in a CLASS (0 to 6; NONE: in all).")
    static void gets() {
        WillHouse house = Checks.house("thing t 9;cash 2000;months 24;child a;from t 109 to a rank 1;sum 100 to a rank 3;rest 1 to a;");
        Checks.row("gets in", kind -> house.gets(0, kind), 9, 100, 0, 0, 0, 5, 0);
        Checks.row("gets in", kind -> house.gets(1, kind), 0, 0, 0, 100, 0, 5, 0);
        Checks.row("gets in", kind -> house.gets(2, kind), 0, 0, 0, 0, 0, 0, 1790);
        Checks.row("gets in all", gift -> house.gets(gift, -1), 114, 105, 1790);
        house.set(1, 1850);
        Checks.row("cut: gets in", kind -> house.gets(1, kind), 0, 0, 0, 50, 0, 0, 0);
        Checks.row("cut: gets in all", gift -> house.gets(gift, -1), 109, 50, 0);
        house.set(1, 99999);
        Checks.row("nothing there: gets in all", gift -> house.gets(gift, -1), 0, 0, 0);
        house.set(1, 0);
        house.renounce(2, true);
        Checks.same("lapsed: gets in all", house.gets(2, -1), 0);
    }

    @Sentence(of = "Promise 19", says = "IllegalArgumentException: the CLASS is none.")
    static void getsInNoClass() {
        WillHouse house = house();
        for (int kind : new int[] {-2, -3, 7, 8, Integer.MAX_VALUE, Integer.MIN_VALUE}) {
            Checks.noArgument("gets in " + kind, () -> house.gets(0, kind));
        }
    }

    @Sentence(of = "Promise 20", says = "Of a CLASS (0 to 6) what 0 DUE of all GIFTS in it (in 6 without what is INTESTATE or BONA),")
    static void classedDue() {
        WillHouse house = Checks.house("thing t 9;cash 1000;months 24;child a;friend b;give t to a;sum 100 to a rank 1;sum 30 to b;",
                "sum 10 to b;rest 1 to a;");
        Checks.row("due in", kind -> house.classed(kind, 0), 9, 100, 0, 0, 40, 6, 854);
        house.renounce(4, true);
        Checks.same("intestate", house.estate(4), 854);
        Checks.same("without what is intestate", house.classed(6, 0), 0);
        house.die(0);
        Checks.same("nobody's", house.estate(5), 968);
        Checks.row("without that", kind -> house.classed(kind, 0), 0, 0, 0, 0, 40, 1, 0);
        Checks.row("of nothing", kind -> new WillHouse().classed(kind, 0), 0, 0, 0, 0, 0, 0, 0);
        Checks.same("of the greatest sums", Checks.house("child a;" + "sum 9999 to a;".repeat(12)).classed(4, 0), 119988);
    }

    @Sentence(of = "Promise 20", says = "1 what all GIFTS get,")
    static void classedGets() {
        WillHouse house = Checks.house("thing t 9;cash 1000;months 24;child a;friend b;give t to a;sum 100 to a rank 1;sum 30 to b;",
                "sum 10 to b;rest 1 to a;");
        Checks.row("got in", kind -> house.classed(kind, 1), 9, 100, 0, 0, 40, 6, 854);
        house.set(1, 880);
        Checks.row("cut: got in", kind -> house.classed(kind, 1), 9, 100, 0, 0, 20, 0, 0);
        house.set(1, 99999);
        Checks.row("nothing: got in", kind -> house.classed(kind, 1), 0, 0, 0, 0, 0, 0, 0);
        house.set(1, 0);
        house.renounce(4, true);
        Checks.same("what is intestate no gift gets", house.classed(6, 1), 0);
    }

    @Sentence(of = "Promise 20", says = "2 how many GIFTS are DUE something in it.")
    static void classedCount() {
        WillHouse house = Checks.house("thing t 9;cash 1000;months 24;child a;friend b;give t to a;sum 100 to a rank 1;sum 30 to b;",
                "sum 10 to b;rest 1 to a;rest 9 to b;");
        // 10 at 5 of a hundred for a year is less than 1
        Checks.row("how many in", kind -> house.classed(kind, 2), 1, 1, 0, 0, 2, 2, 2);
        house.set(1, 862);
        // 38 left of 40 in 4, nothing for 5
        Checks.row("cut: how many in", kind -> house.classed(kind, 2), 1, 1, 0, 0, 2, 2, 0);
        house.lose(0, 0);
        Checks.same("what brings nothing", house.classed(0, 2), 0);
        Checks.same("as many as there may be", Checks.house("child a;" + "sum 1 to a;".repeat(12)).classed(4, 2), 12);
    }

    @Sentence(of = "Promise 20", says = "IllegalArgumentException: the CLASS is none;")
    static void noClass() {
        WillHouse house = house();
        Checks.noArgumentOutside("class", 6, kind -> house.classed(kind, 0));
        Checks.noArgumentOutside("class, and another what", 6, kind -> house.classed(kind, 3));
    }

    @Sentence(of = "Promise 20", says = "NoSuchElementException: another what.")
    static void nothingElseOfAClass() {
        WillHouse house = house();
        for (int kind = 0; kind <= 6; kind++) {
            int of = kind;
            Checks.noElementOutside("class " + kind + " what", 2, what -> house.classed(of, what));
        }
    }

    @Sentence(of = "Promise 21", says = "Whether a SPECIFIC GIFT that does not LAPSE gets its THING itself (it is HELD, 0 is not CUT).")
    static void itself() {
        WillHouse house = house();
        Checks.yes("held", house.itself(0));
        house.set(1, 108);
        Checks.yes("1 is cut, 0 gets just enough", house.itself(0));
        house.set(1, 109);
        Checks.no("0 is cut by 1", house.itself(0));
        house.set(1, 0);
        house.renounce(0, true);
        Checks.no("lapses", house.itself(0));
        house.undo();
        house.sell(0, 9, 9);
        Checks.no("sold", house.itself(0));
        house.undo();
        house.lose(0, 9);
        Checks.no("lost", house.itself(0));
        house.undo();
        Checks.yes("held again", house.itself(0));
        house.die(0);
        Checks.no("lapses", house.itself(0));
    }

    @Sentence(of = "Promise 21", says = "IllegalArgumentException: it is no SPECIFIC one.")
    static void itselfOfNoThing() {
        WillHouse house = Checks.house("thing t 9;thing u 9;child a;sum 5 to a;from t 5 to a;rest 1 to a;give u to a;");
        for (int gift = 0; gift < 3; gift++) {
            int of = gift;
            Checks.noArgument("itself of " + gift, () -> house.itself(of));
            house.renounce(gift, true);
            Checks.noArgument("itself of " + gift + ", lapsed", () -> house.itself(of));
        }
        Checks.yes("of a thing", house.itself(3));
    }

    /** By the least debt the CLASS does not get all, by 1 less it does. */
    private static void leastDebt(WillHouse house, int kind, int due) {
        Checks.same("least debt of " + kind, house.leastDebt(kind), due);
        if (due >= 0 && due <= 99999) {
            house.set(1, due);
            Checks.yes(kind + " does not get all by " + due, house.classed(kind, 1) < house.classed(kind, 0));
            house.undo();
        }
        if (due >= 1 && due <= 100000) {
            house.set(1, due - 1);
            Checks.same(kind + " by 1 less gets", house.classed(kind, 1), house.classed(kind, 0));
            house.undo();
        }
    }

    @Sentence(of = "Promise 22", says = "The least debt, all else as it is, by which a CLASS (0 to 4) does not get all that it is DUE"
            + " (above 99999, too);")
    static void leastDebtOfClasses() {
        WillHouse house = house();
        for (int debt : new int[] {0, 50, 99999}) {
            // debt as it is plays no part
            house.set(1, debt);
            leastDebt(house, 0, 109);
            leastDebt(house, 1, 89);
            leastDebt(house, 4, 39);
        }
        house.set(0, 62);
        leastDebt(house, 4, 1);
        house.set(0, 61);
        leastDebt(house, 4, 0);
        house.set(0, 0);
        leastDebt(house, 4, 0);
        leastDebt(house, 0, 9);
        house.set(0, 99999);
        leastDebt(house, 0, 100008);
        leastDebt(house, 4, 99938);
        WillHouse most = Checks.house("cash 99999;", Checks.each("thing # 9999;", 8), "child p;sum 1 to p;");
        leastDebt(most, 4, 179991);
        WillHouse edge = Checks.house("cash 99999;child a;sum 1 to a;");
        leastDebt(edge, 4, 99999);
    }

    @Sentence(of = "Promise 22", says = "NONE: it is DUE nothing.")
    static void noLeastDebt() {
        WillHouse house = house();
        leastDebt(house, 2, -1);
        leastDebt(house, 3, -1);
        house.renounce(1, true);
        leastDebt(house, 1, -1);
        house.lose(0, 0);
        leastDebt(house, 0, -1);
        Checks.row("of nothing", new WillHouse()::leastDebt, -1, -1, -1, -1, -1);
    }

    @Sentence(of = "Promise 22", says = "IllegalArgumentException: the CLASS is none.")
    static void leastDebtOfNoClass() {
        Checks.noArgumentOutside("least debt of", 4, house()::leastDebt);
        Checks.noArgument("interest", () -> house().leastDebt(5));
        Checks.noArgument("the rest", () -> house().leastDebt(6));
    }

    private static boolean allGetAll(WillHouse house, int last) {
        boolean all = true;
        for (int kind = 0; kind <= last; kind++) {
            all &= house.classed(kind, 0) == house.classed(kind, 1);
        }
        return all;
    }

    /** By the least cash CLASSES 0 to the told one get all, by 1 less they do not. */
    private static void needed(WillHouse house, int last, int due) {
        Checks.same("needed for " + last, house.needed(last), due);
        house.set(0, due == -1 ? 99999 : due);
        Checks.same("all get all", allGetAll(house, last) ? 1 : 0, due == -1 ? 0 : 1);
        house.undo();
        if (due > 0) {
            house.set(0, due - 1);
            Checks.no("all get all by 1 less", allGetAll(house, last));
            house.undo();
        }
    }

    @Sentence(of = "Promise 23", says = "The least cash, all else as it is, by which CLASSES 0 to a told one (0 to 4)"
            + " get all that they are DUE;")
    static void neededByClasses() {
        WillHouse house = house();
        for (int cash : new int[] {0, 100, 99999}) {
            // cash as it is plays no part; things bring 17
            house.set(0, cash);
            needed(house, 0, 0);
            needed(house, 1, 12);
            needed(house, 2, 12);
            needed(house, 3, 12);
            needed(house, 4, 62);
        }
        house.set(1, 8);
        needed(house, 0, 0);
        house.set(1, 9);
        needed(house, 0, 1);
        house.set(1, 99937);
        needed(house, 4, 99999);
        house.set(1, 99999);
        needed(house, 0, 99991);
    }

    @Sentence(of = "Promise 23", says = "NONE: it would have to be above 99999.")
    static void moreNeededThanThereMayBe() {
        WillHouse house = house();
        house.set(1, 99938);
        needed(house, 4, -1);
        needed(house, 1, 99950);
        house.set(1, 99999);
        needed(house, 4, -1);
        needed(house, 1, -1);
        WillHouse great = Checks.house("child a;" + "sum 9999 to a;".repeat(12));
        needed(great, 4, -1);
        needed(great, 3, 0);
        // where nothing is DUE, all of it is got, whatever debt there is
        WillHouse none = Checks.house("debt 99999;child a;");
        needed(none, 4, 0);
    }

    @Sentence(of = "Promise 23", says = "IllegalArgumentException: the CLASS is none.")
    static void neededByNoClass() {
        Checks.noArgumentOutside("needed for", 4, house()::needed);
        Checks.noArgument("interest", () -> house().needed(5));
        Checks.noArgument("the rest", () -> house().needed(6));
    }

    @Sentence(of = "Promise 24", says = "What a GIFT gets in 0 to 4, of a thousand of what it is DUE in them, rounded down;")
    static void part() {
        WillHouse house = Checks.house("child a;sum 9999 to a;");
        int[] cash = {0, 1, 9, 10, 20, 5000, 9998, 9999, 99999};
        int[] due = {0, 0, 0, 1, 2, 500, 999, 1000, 1000};
        for (int i = 0; i < cash.length; i++) {
            house.set(0, cash[i]);
            Checks.same("part by " + cash[i], house.part(0), due[i]);
        }
        house.set(2, 240);
        Checks.same("interest is no part of it", house.part(0), 1000);
        // 10 in 0 and half of 10 in 4
        WillHouse both = Checks.house("thing t 10;cash 5;child a;from t 20 to a;");
        Checks.same("of both classes", both.part(0), 750);
        WillHouse thing = Checks.house("thing t 10;debt 7;child a;give t to a;");
        Checks.same("of a thing", thing.part(0), 300);
    }

    @Sentence(of = "Promise 24", says = "NONE: it is DUE nothing there.")
    static void noPart() {
        WillHouse house = Checks.house("thing t 9;cash 100;months 24;child a;sum 5 to a;rest 1 to a;give t to a;");
        Checks.same("the rest", house.part(1), -1);
        house.renounce(0, true);
        Checks.same("lapsed", house.part(0), -1);
        house.lose(0, 0);
        Checks.same("adeemed wholly", house.part(2), -1);
        house.set(4, 1);
        Checks.same("with the rule", house.part(2), 1000);
        house.set(0, 0);
        Checks.same("due, but gets nothing", house.part(2), 0);
    }

    @Sentence(of = "Promise 25", says = "FUND: what is left of what a THING BRINGS behind all DEMONSTRATIVE GIFTS out of it"
            + " (that do not LAPSE; each as it is DUE in 0).")
    static void left() {
        WillHouse house = Checks.house("thing t 10;thing u 20;thing v 30;child a;from t 6 to a;give v to a;from t 3 to a;sum 9 to a;",
                "debt 99999;");
        Checks.row("left of", house::left, 1, 20, 30);
        house.change(0, 9);
        Checks.same("just all", house.left(0), 0);
        house.change(0, 8);
        Checks.same("not below 0", house.left(0), 0);
        house.change(0, 1);
        Checks.same("not below 0", house.left(0), 0);
        house.renounce(0, true);
        house.change(0, 4);
        Checks.same("one lapses", house.left(0), 1);
        house.sell(0, 9, 3);
        Checks.same("sold", house.left(0), 0);
        house.sell(1, 9, 4);
        house.lose(2, 5);
        Checks.row("left of", house::left, 0, 4, 5);
    }
}
