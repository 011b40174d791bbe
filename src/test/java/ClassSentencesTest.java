import java.util.function.Consumer;

/** Terms 3: what is DUE, how CLASSES are paid, who TAKES, ACTS, what is WRITTEN, a test for each sentence. */
final class ClassSentencesTest {
    public static void main(String[] names) throws IllegalAccessException {
        Sentences.run(ClassSentencesTest.class, names);
    }

    private static void dues(String when, WillHouse house, int gift, int... due) {
        Checks.row(when + ": due of gift " + gift + " in", kind -> house.due(gift, kind), due);
    }

    private static void gets(String when, WillHouse house, int kind, int... due) {
        Checks.row(when + ": got in " + kind + " by", gift -> house.gets(gift, kind), due);
    }

    @Sentence(of = "Terms 3", says = "CLASSES: 0, 1 to 4 (RANKS), 5 INTEREST, 6 THE REST.")
    static void classes() {
        WillHouse house = Checks.house("thing t 9;cash 10000;months 24;child a;rest 1 to a;sum 400 to a rank 4;",
                "sum 300 to a rank 3;sum 200 to a rank 2;sum 100 to a rank 1;give t to a;");
        Checks.row("due in", kind -> house.classed(kind, 0), 9, 100, 200, 300, 400, 50, 8950);
        Checks.row("got in", kind -> house.classed(kind, 1), 9, 100, 200, 300, 400, 50, 8950);
        Checks.noArgumentOutside("class", 6, kind -> house.classed(kind, 0));
    }

    @Sentence(of = "Terms 3", says = "DUE of a GIFT that does not LAPSE (one that does is DUE nothing):")
    static void lapsedIsDueNothing() {
        WillHouse house = Checks.house("thing t 9;thing u 9;cash 999;months 24;rate 99;rule worth;friend b;give t to b;",
                "sum 50 to b rank 1;from u 20 to b rank 2;rest 1 to b;sold t 4 owed 1;");
        dues("alive", house, 0, 1, 0, 0, 0, 8, 7, 0);
        dues("alive", house, 1, 0, 50, 0, 0, 0, 49, 0);
        dues("alive", house, 2, 9, 0, 11, 0, 0, 10, 0);
        // 999 and 3 and 1 and 9, less 79, less 66
        dues("alive", house, 3, 0, 0, 0, 0, 0, 0, 867);
        house.die(0);
        for (int gift = 0; gift < 4; gift++) {
            dues("dead", house, gift, 0, 0, 0, 0, 0, 0, 0);
        }
        WillHouse twelve = Checks.house("child a;", "sum 5 to a;".repeat(12));
        dues("the twelfth", twelve, 11, 0, 0, 0, 0, 5, 0, 0);
        twelve.renounce(11, true);
        dues("the twelfth lapsed", twelve, 11, 0, 0, 0, 0, 0, 0, 0);
    }

    @Sentence(of = "Terms 3", says = "SPECIFIC: in 0 what its THING BRINGS;")
    static void specificIsDueInZero() {
        WillHouse house = Checks.house("thing a 9999;thing b 9;thing c 9;thing d 9;child p;give a to p;give b to p;give c to p;",
                "give d to p;sold b 9 owed 0;sold c 9 owed 9;lost d insured 9999;");
        int[] due = {9999, 0, 9, 9999};
        for (int gift = 0; gift < due.length; gift++) {
            dues("told", house, gift, due[gift], 0, 0, 0, 0, 0, 0);
        }
        house.change(0, 1);
        dues("changed", house, 0, 1, 0, 0, 0, 0, 0, 0);
    }

    @Sentence(of = "Terms 3", says = "with RULE WORTH, if it is ADEEMED, in 4 what its WORTH (as it was told or changed last)"
            + " is above that (0 at least).")
    static void ruleWorth() {
        int[] insured = {0, 7, 8, 9, 9999};
        int[] due = {8, 1, 0, 0, 0};
        for (int i = 0; i < insured.length; i++) {
            WillHouse house = Checks.house("thing a 5000;thing b 9;child p;give a to p;from b 9 to p;rule worth;changed a 8;");
            dues("held", house, 0, 8, 0, 0, 0, 0, 0, 0);
            house.lose(0, insured[i]);
            house.lose(1, 9);
            dues("insured for " + insured[i], house, 0, insured[i], 0, 0, 0, due[i], 0, 0);
            dues("of a fund", house, 1, 9, 0, 0, 0, 0, 0, 0);
            house.set(4, 0);
            dues("without the rule", house, 0, insured[i], 0, 0, 0, 0, 0, 0);
        }
        dues("sold", Checks.house("thing a 9;child p;give a to p;rule worth;sold a 9999 owed 2;"), 0, 2, 0, 0, 0, 7, 0, 0);
        dues("as told", Checks.house("thing a 9999;child p;give a to p;rule worth;lost a insured 0;"), 0, 0, 0, 0, 0, 9999, 0, 0);
    }

    @Sentence(of = "Terms 3", says = "GENERAL: in the CLASS of its RANK its sum.")
    static void generalIsDueInItsRank() {
        WillHouse house = Checks.house("child a;sum 1 to a rank 1;sum 22 to a rank 2;sum 333 to a rank 3;sum 9999 to a rank 4;",
                "sum 5 to a;");
        dues("rank 1", house, 0, 0, 1, 0, 0, 0, 0, 0);
        dues("rank 2", house, 1, 0, 0, 22, 0, 0, 0, 0);
        dues("rank 3", house, 2, 0, 0, 0, 333, 0, 0, 0);
        dues("rank 4", house, 3, 0, 0, 0, 0, 9999, 0, 0);
        dues("without rank", house, 4, 0, 0, 0, 0, 5, 0, 0);
    }

    @Sentence(of = "Terms 3", says = "DEMONSTRATIVE: in 0 its sum, but no more than what is left of what its FUND BRINGS"
            + " by DEMONSTRATIVE GIFTS of less numbers out of it that do not LAPSE;")
    static void demonstrativeIsDueOutOfItsFund() {
        WillHouse house = Checks.house("thing t 10;thing u 5;child a;from t 4 to a;from u 5 to a;from t 6 to a;from t 1 to a;",
                "from u 1 to a;");
        Checks.row("t is enough for 0 and 2: due in 0 of", gift -> house.due(gift, 0), 4, 5, 6, 0, 0);
        house.change(0, 9);
        Checks.row("by 1 too little: due in 0 of", gift -> house.due(gift, 0), 4, 5, 5, 0, 0);
        house.renounce(0, true);
        Checks.row("0 lapses: due in 0 of", gift -> house.due(gift, 0), 0, 5, 6, 1, 0);
        house.renounce(3, true);
        Checks.row("those behind take nothing away: due in 0 of", gift -> house.due(gift, 0), 0, 5, 6, 0, 0);
        house.sell(0, 9, 2);
        house.lose(1, 0);
        Checks.row("what it brings: due in 0 of", gift -> house.due(gift, 0), 0, 0, 2, 0, 0);
        house.undo();
        house.lose(1, 9999);
        Checks.row("no more than the sum: due in 0 of", gift -> house.due(gift, 0), 0, 5, 2, 0, 1);
    }

    @Sentence(of = "Terms 3", says = "what is missing in the CLASS of its RANK.")
    static void missingIsDueInTheRank() {
        WillHouse house = Checks.house("thing t 10;child a;from t 9 to a rank 1;from t 2 to a rank 2;from t 7 to a rank 3;",
                "from t 9999 to a;");
        dues("nothing missing", house, 0, 9, 0, 0, 0, 0, 0, 0);
        dues("1 missing", house, 1, 1, 0, 1, 0, 0, 0, 0);
        dues("all missing", house, 2, 0, 0, 0, 7, 0, 0, 0);
        dues("all missing without rank", house, 3, 0, 0, 0, 0, 9999, 0, 0);
        house.lose(0, 0);
        dues("fund of nothing", house, 0, 0, 9, 0, 0, 0, 0, 0);
        house.renounce(0, true);
        dues("lapsed", house, 0, 0, 0, 0, 0, 0, 0, 0);
    }

    private static WillHouse fiveClasses(int cash, int debt) {
        WillHouse house = Checks.house("thing t 9;child a;sum 10 to a;sum 20 to a rank 3;sum 30 to a rank 2;sum 40 to a rank 1;",
                "give t to a;");
        house.set(0, cash);
        house.set(1, debt);
        return house;
    }

    @Sentence(of = "Terms 3", says = "CLASSES 0 to 4 are paid in turn out of what is AVAILABLE: in full, as long as there is enough;")
    static void paidInFull() {
        WillHouse house = fiveClasses(107, 7);
        Checks.same("just enough", house.estate(7), -1);
        Checks.row("got by", gift -> house.gets(gift, -1), 10, 20, 30, 40, 9);
        house.set(1, 17);
        Checks.row("enough for 0 to 3: got by", gift -> house.gets(gift, -1), 0, 20, 30, 40, 9);
        house.set(1, 67);
        Checks.row("enough for 0 and 1: got by", gift -> house.gets(gift, -1), 0, 0, 0, 40, 9);
        house.set(1, 107);
        Checks.row("enough for 0: got by", gift -> house.gets(gift, -1), 0, 0, 0, 0, 9);
        Checks.same("nothing due, nothing there", Checks.house("debt 5;child a;").estate(7), -1);
    }

    @Sentence(of = "Terms 3", says = "the first one for which there is not is CUT:")
    static void theFirstIsCut() {
        int[] available = {100 + 9, 108, 99, 98, 79, 78, 49, 48, 9, 8, 0};
        int[] cut = {-1, 4, 4, 3, 3, 2, 2, 1, 1, 0, 0};
        for (int i = 0; i < available.length; i++) {
            Checks.same("cut by " + available[i], fiveClasses(100, 109 - available[i]).estate(7), cut[i]);
        }
        WillHouse house = Checks.house("cash 10;child a;sum 5 to a rank 1;sum 6 to a rank 3;");
        Checks.same("a class that is due nothing is not cut", house.estate(7), 3);
    }

    @Sentence(of = "Terms 3", says = "each GIFT gets DUE times what is left by DUE of all in it, rounded down;")
    static void cutByWhatIsLeft() {
        WillHouse house = Checks.house("cash 150;child a;sum 60 to a;sum 100 to a rank 1;sum 30 to a;sum 10 to a;");
        gets("50 of 100", house, 4, 30, 0, 15, 5);
        house.set(0, 110);
        gets("10 of 100", house, 4, 6, 0, 3, 1);
        house.set(0, 100);
        gets("nothing of 100", house, 4, 0, 0, 0, 0);
        // 97 of 100: 58.2, 29.1, 9.7
        house.set(0, 197);
        gets("97 of 100", house, 4, 58, 0, 29, 10);
        WillHouse great = Checks.house("cash 99999;child a;" + "sum 9999 to a;".repeat(12));
        gets("of the greatest sums", great, 4, 8334, 8334, 8334, 8333, 8333, 8333, 8333, 8333, 8333, 8333, 8333, 8333);
    }

    @Sentence(of = "Terms 3", says = "what is left over by 1 to those with the greatest rests (of several the least number).")
    static void leftOverByRests() {
        WillHouse alike = Checks.house("child a;sum 10 to a;sum 10 to a;sum 10 to a;");
        int[][] due = {{0, 0, 0}, {1, 0, 0}, {1, 1, 0}, {1, 1, 1}, {10, 10, 9}};
        int[] cash = {0, 1, 2, 3, 29};
        for (int i = 0; i < cash.length; i++) {
            alike.set(0, cash[i]);
            gets("of " + cash[i], alike, 4, due[i]);
        }
        // 5 of 7: 5 by 7, 10 by 7, 20 by 7 leave 5, 3, 6
        WillHouse other = Checks.house("cash 5;child a;sum 1 to a;sum 2 to a;sum 4 to a;");
        gets("5 of 7", other, 4, 1, 1, 3);
        // 4 of 7: 4, 8, 16 leave 4, 1, 2
        other.set(0, 4);
        gets("4 of 7", other, 4, 1, 1, 2);
        // 3 of 7: 3, 6, 12 leave 3, 6, 5
        other.set(0, 3);
        gets("3 of 7", other, 4, 0, 1, 2);
        WillHouse ranked = Checks.house("cash 1;child a;sum 9 to a rank 2;sum 1 to a rank 1;sum 1 to a rank 1;");
        gets("those in the class alone", ranked, 1, 0, 1, 0);
    }

    @Sentence(of = "Terms 3", says = "All behind get nothing.")
    static void allBehindGetNothing() {
        WillHouse house = Checks.house("cash 1999;months 24;child a;sum 500 to a rank 1;sum 1500 to a rank 2;",
                "sum 1 to a rank 3;sum 1 to a;rest 1 to a;");
        Checks.row("got in", kind -> house.classed(kind, 1), 0, 500, 1499, 0, 0, 0, 0);
        Checks.row("due in", kind -> house.classed(kind, 0), 0, 500, 1500, 1, 1, 99, 0);
        house.set(0, 500);
        Checks.row("nothing is left for 2: got in", kind -> house.classed(kind, 1), 0, 500, 0, 0, 0, 0, 0);
        Checks.same("rest", house.estate(3), 0);
    }

    private static WillHouse interest(int sum, int rate, int months) {
        return Checks.house("cash 99999;child a;sum " + sum + " to a;rate " + rate + ";months " + months + ";");
    }

    @Sentence(of = "Terms 3", says = "INTEREST: of each GIFT DUE in 5: what it gets in 1 to 4, times rate, times MONTHS above 12,"
            + " by 1200, rounded down.")
    static void interest() {
        int[][] tried = {{1200, 5, 0, 0}, {1200, 5, 12, 0}, {1200, 5, 13, 5}, {1200, 5, 14, 10}, {1200, 0, 240, 0},
            {1200, 1, 13, 1}, {1199, 1, 13, 0}, {1201, 1, 13, 1}, {2399, 1, 13, 1}, {1, 99, 25, 1}, {1, 99, 24, 0},
            {9999, 99, 240, 188081}};
        for (int[] one : tried) {
            Checks.same("interest on " + one[0] + " at " + one[1] + " for " + one[2],
                    interest(one[0], one[1], one[2]).due(0, 5), one[3]);
        }
        // what it gets in 0 bears none; in 4, as part of a thing, it does; of what it is DUE and does not get there is none
        WillHouse house = Checks.house("thing t 200;thing u 300;cash 100;child a;give t to a;from u 400 to a;rest 1 to a;",
                "months 24;rate 10;rule worth;lost t insured 100;");
        Checks.row("interest on", gift -> house.due(gift, 5), 5, 5, 0);
    }

    @Sentence(of = "Terms 3", says = "5 is paid out of what is left then likewise, in full or CUT.")
    static void interestIsPaidLikewise() {
        WillHouse house = Checks.house("cash 1575;child a;sum 1000 to a;sum 500 to a rank 1;months 24;");
        gets("just enough", house, 5, 50, 25);
        Checks.same("cut", house.estate(7), -1);
        house.set(0, 1574);
        // 74 of 75: 49 and a third, 24 and two thirds
        gets("by 1 too little", house, 5, 49, 25);
        Checks.same("cut", house.estate(7), 5);
        house.set(0, 1500);
        gets("nothing left", house, 5, 0, 0);
        Checks.same("cut", house.estate(7), 5);
        WillHouse great = Checks.house("cash 99999;thing t 9999;child a;sum 9999 to a;sum 9999 to a;months 240;rate 99;");
        // 90000 left by 188081 twice
        gets("of the greatest sums", great, 5, 45000, 45000);
    }

    @Sentence(of = "Terms 3", says = "THE REST is what is left behind 5: DUE in 6 and got: parted by SHARES of all rest GIFTS"
            + " that do not LAPSE, rounded down,")
    static void partedByShares() {
        WillHouse house = Checks.house("cash 1580;child a;friend b;sum 1000 to a;months 24;rest 9 to a;rest 1 to b;rest 5 to a;");
        gets("530", house, 6, 0, 318, 35, 177);
        Checks.row("due in 6 of", gift -> house.due(gift, 6), 0, 318, 35, 177);
        Checks.same("rest", house.estate(3), 530);
        house.die(1);
        gets("one lapses", house, 6, 0, 341, 0, 189);
        house.set(0, 1050);
        gets("nothing is left", house, 6, 0, 0, 0, 0);
        Checks.row("due in 6 of", gift -> house.due(gift, 6), 0, 0, 0, 0);
        WillHouse great = Checks.house("cash 99999;", Checks.each("thing # 9999;", 8), "child p;rest 9 to p;rest 9 to p;");
        gets("the greatest rest", great, 6, 89996, 89995);
        WillHouse twelve = Checks.house("cash 100;child a;", "rest 9 to a;".repeat(12));
        gets("to twelve", twelve, 6, 9, 9, 9, 9, 8, 8, 8, 8, 8, 8, 8, 8);
    }

    @Sentence(of = "Terms 3", says = "what is left over by 1 to the greatest rests (of several the least number);")
    static void leftOverOfTheRest() {
        WillHouse house = Checks.house("child a;rest 1 to a;rest 2 to a;rest 4 to a;");
        int[][] due = {{0, 0, 0}, {0, 0, 1}, {0, 1, 1}, {0, 1, 2}, {1, 1, 2}, {1, 1, 3}, {1, 2, 3}, {1, 2, 4}};
        for (int cash = 0; cash < due.length; cash++) {
            house.set(0, cash);
            gets("of " + cash, house, 6, due[cash]);
        }
        WillHouse alike = Checks.house("cash 5;child a;rest 3 to a;rest 3 to a;rest 3 to a;");
        gets("5 by alike shares", alike, 6, 2, 2, 1);
        alike.renounce(0, true);
        gets("5 by two", alike, 6, 0, 3, 2);
    }

    @Sentence(of = "Terms 3", says = "if there are none, it is INTESTATE: parted in equal parts among HEIRS by numbers,")
    static void intestate() {
        WillHouse house = Checks.house("cash 9;friend a;child b;child c;child d;rest 1 to a;");
        Checks.same("there is one", house.estate(4), 0);
        house.renounce(0, true);
        Checks.same("it lapses", house.estate(4), 9);
        Checks.row("takes of it", person -> house.taken(person, 1), 0, 3, 3, 3);
        house.die(2);
        house.set(0, 8);
        Checks.row("two heirs: takes of it", person -> house.taken(person, 1), 0, 4, 0, 4);
        house.die(3);
        Checks.row("one heir: takes of it", person -> house.taken(person, 1), 0, 8, 0, 0);
    }

    @Sentence(of = "Terms 3", says = "what is left over by 1 to the first ones;")
    static void leftOverOfIntestate() {
        WillHouse house = Checks.house("friend f;child a;child b;child c;");
        int[][] due = {{0, 0, 0, 0}, {0, 1, 0, 0}, {0, 1, 1, 0}, {0, 1, 1, 1}, {0, 2, 1, 1}, {0, 2, 2, 1}};
        for (int cash = 0; cash < due.length; cash++) {
            house.set(0, cash);
            Checks.row("takes of " + cash, person -> house.taken(person, 1), due[cash]);
        }
        house.die(1);
        Checks.row("the first heir that is left takes more", person -> house.taken(person, 1), 0, 0, 3, 2);
    }

    @Sentence(of = "Terms 3", says = "without HEIRS it is BONA (nobody's).")
    static void bona() {
        WillHouse house = Checks.house("cash 9;child a;friend b;");
        Checks.same("there is an heir", house.estate(5), 0);
        house.die(0);
        Checks.same("without heirs", house.estate(5), 9);
        Checks.row("in all", person -> house.taken(person, 0), 0, 0);
        house.set(1, 9);
        Checks.same("nothing is left", house.estate(5), 0);
        WillHouse nobody = Checks.house("cash 9;");
        Checks.same("without persons", nobody.estate(5), 9);
    }

    @Sentence(of = "Terms 3", says = "A PERSON TAKES of a GIFT what is PASSED to it of what the GIFT gets"
            + " (CLASS by CLASS, each PASSED by itself),")
    static void takenClassByClass() {
        // 3 in 0, 3 in 1, 1 in 5: 2 and 1 each, and 1
        WillHouse house = Checks.house("thing t 3;cash 4;months 240;child a;issue b of a;issue c of a;from t 6 to a rank 1;dead a;");
        Checks.row("takes", person -> house.takes(0, person), 0, 5, 2);
        house.set(2, 0);
        house.set(0, 3);
        Checks.row("takes", person -> house.takes(0, person), 0, 4, 2);
        Checks.row("takes of all", person -> house.taken(person, 0), 0, 4, 2);
    }

    @Sentence(of = "Terms 3", says = "of INTESTATE what is PASSED of the part of its HEIR.")
    static void takenOfIntestate() {
        // 14: 5, 5, 4; of b's 5 2, 2, 1
        WillHouse house = Checks.house("cash 14;child a;child b;child c;issue d of b;issue e of b;issue f of b;issue g of a;dead b;");
        Checks.row("takes", person -> house.taken(person, 1), 5, 0, 4, 2, 2, 1, 0);
        house.die(0);
        Checks.row("takes", person -> house.taken(person, 1), 0, 0, 4, 2, 2, 1, 5);
    }

    @Sentence(of = "Terms 3", says = "ACTS (the latest 16 are kept):")
    static void latestSixteenActs() {
        WillHouse house = new WillHouse();
        for (int cash = 1; cash <= 40; cash++) {
            house.set(0, cash);
            Checks.same("acts", house.count(12), Math.min(cash, 16));
        }
        for (int left = 15; left >= 0; left--) {
            Checks.same("undo", house.undo(), left);
            Checks.same("cash", house.count(3), 24 + left);
        }
        Checks.same("no more", house.undo(), -1);
        Checks.same("cash", house.count(3), 24);
    }

    private static WillHouse small() {
        return Checks.house("thing t 9;thing u 9;cash 7;child a;friend b;issue c of a;give t to a;from u 5 to b;rest 1 to b;");
    }

    @Sentence(of = "Terms 3", says = "a THING is SOLD, changed, LOST, a PERSON dies, a GIFT is RENOUNCED or is not any more,"
            + " cash, debt, months, rate, RULE are told.")
    static void whatIsAnAct() {
        WillHouse house = small();
        house.change(0, 8);
        Checks.same("changed", house.count(12), 1);
        house.sell(0, 5, 5);
        Checks.same("sold", house.count(12), 2);
        house.lose(1, 5);
        Checks.same("lost", house.count(12), 3);
        house.die(0);
        Checks.same("dies", house.count(12), 4);
        house.renounce(0, true);
        Checks.same("renounced", house.count(12), 5);
        house.renounce(0, false);
        Checks.same("not any more", house.count(12), 6);
        for (int what = 0; what <= 4; what++) {
            house.set(what, 1);
            Checks.same("told " + what, house.count(12), 7 + what);
        }
        house.feed(0, 0, 0, 0, 0);
        house.end(0);
        house.write(1);
        house.ifDead(1, 1);
        house.ifDebt(1, 1);
        house.ifRenounced(1, 1);
        house.ifHeld(1);
        house.envied(1);
        Checks.same("nothing else is one", house.count(12), 11);
    }

    @Sentence(of = "Terms 3", says = "Each is one also where nothing changes.")
    static void actsWhereNothingChanges() {
        WillHouse house = small();
        house.change(0, 9);
        Checks.same("changed to what it was", house.count(12), 1);
        house.renounce(0, false);
        Checks.same("not renounced and not", house.count(12), 2);
        house.renounce(0, true);
        house.renounce(0, true);
        Checks.same("renounced twice", house.count(12), 4);
        for (int what = 0; what <= 4; what++) {
            house.set(what, house.count(3 + what));
            Checks.same("told what it was", house.count(12), 5 + what);
        }
        Checks.same("undone", house.undo(), 8);
    }

    private static void undone(String what, Consumer<WillHouse> act) {
        WillHouse house = small();
        act.accept(house);
        Checks.no(what + " changes something", Answers.of(house).equals(Answers.of(small())));
        house = small();
        act.accept(house);
        // what was reckoned in between is not told behind it
        house.taken(0, 0);
        Checks.same("undo of " + what, house.undo(), 0);
        Checks.same("after undo of " + what, Answers.of(house), Answers.of(small()));
    }

    @Sentence(of = "Terms 3", says = "UNDONE: all is as ahead of it.")
    static void undoneIsAsAhead() {
        undone("sell", house -> house.sell(0, 5, 3));
        undone("change", house -> house.change(0, 5));
        undone("lose", house -> house.lose(1, 3));
        undone("die", house -> house.die(0));
        undone("renounce", house -> house.renounce(0, true));
        undone("cash", house -> house.set(0, 99999));
        undone("debt", house -> house.set(1, 99999));
        undone("months", house -> house.set(2, 240));
        undone("rate", house -> house.set(3, 0));
        undone("rule", house -> house.set(4, 1));
        WillHouse house = small();
        house.renounce(0, true);
        house.renounce(0, false);
        house.undo();
        Checks.same("renounced again", house.count(14), 1);
    }

    @Sentence(of = "Terms 3", says = "WRITTEN is a PERSON: its NAME, a blank, what it TAKES in all;")
    static void writtenNameAndAll() {
        WillHouse house = Checks.house("child abcdef;friend z;");
        Checks.same("of nothing", Checks.written(house, 1), "z 0");
        Checks.same("of nothing", Checks.written(house, 0), "abcdef 0");
        house.set(0, 1);
        Checks.same("of 1", Checks.written(house, 0), "abcdef 1 i:1");
        Checks.same("of both", Checks.written(Checks.house("cash 12;child a;sum 5 to a;sum 4 to a;"), 0), "a 12 0:5 1:4 i:3");
        WillHouse great = Checks.house("child a;cash 99999;", Checks.each("thing # 9999;", 8));
        Checks.same("of the most", Checks.written(great, 0), "a 179991 i:179991");
    }

    @Sentence(of = "Terms 3", says = "if it is dead, a blank and dead;")
    static void writtenDead() {
        WillHouse house = Checks.house("cash 9;child a;issue b of a;");
        Checks.same("lives", Checks.written(house, 0), "a 9 i:9");
        house.die(0);
        Checks.same("dead", Checks.written(house, 0), "a 0 dead");
        Checks.same("b lives", Checks.written(house, 1), "b 9 i:9");
    }

    @Sentence(of = "Terms 3", says = "then for each GIFT of which it TAKES something a blank, the number of the GIFT, :, how much;")
    static void writtenGifts() {
        WillHouse house = Checks.house("cash 8;child a;issue b of a;friend c;sum 5 to a rank 1;sum 2 to c rank 2;sum 1 to a rank 3;",
                "sum 1 to a;");
        Checks.same("3 gets nothing", Checks.written(house, 0), "a 6 0:5 2:1");
        Checks.same("the second", Checks.written(house, 2), "c 2 1:2");
        Checks.same("none", Checks.written(house, 1), "b 0");
        house.die(0);
        Checks.same("those of a", Checks.written(house, 1), "b 6 0:5 2:1");
        WillHouse twelve = Checks.house("cash 1020;friend a;" + "sum 2 to a;".repeat(10) + "sum 1 to a;sum 999 to a;");
        Checks.same("of two digits", Checks.written(twelve, 0),
                "a 1020 0:2 1:2 2:2 3:2 4:2 5:2 6:2 7:2 8:2 9:2 10:1 11:999");
    }

    @Sentence(of = "Terms 3", says = "if of INTESTATE, a blank, i:, how much.")
    static void writtenIntestate() {
        WillHouse house = Checks.house("cash 6;child a;child b;friend c;sum 5 to a;");
        Checks.same("of both", Checks.written(house, 0), "a 6 0:5 i:1");
        Checks.same("nothing of it", Checks.written(house, 1), "b 0");
        house.set(0, 7);
        Checks.same("of it alone", Checks.written(house, 1), "b 1 i:1");
        house.die(0);
        house.die(1);
        Checks.same("nobody's", Checks.written(house, 2), "c 0");
    }
}
