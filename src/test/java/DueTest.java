/** Promises 17 to 25: what is there, what is DUE, what a GIFT gets. */
final class DueTest {
    public static void main(String[] args) {
        estate();
        unpaid();
        intestateAndBona();
        classesInTurn();
        cutByGreatestRests();
        demonstrative();
        ruleWorth();
        interest();
        interestCut();
        rest();
        wrongClasses();
        classed();
        itself();
        leastDebt();
        needed();
        part();
        left();
        greatNumbers();
        Checks.close("DueTest");
    }

    private static void estates(WillHouse house, int... due) {
        for (int what = 0; what < due.length; what++) {
            Checks.same("estate " + what, house.estate(what), due[what]);
        }
    }

    private static void dues(WillHouse house, int gift, int... due) {
        for (int kind = 0; kind < due.length; kind++) {
            Checks.same("due " + gift + " in " + kind, house.due(gift, kind), due[kind]);
        }
    }

    /** What a GIFT gets in 0 to 6, and in all. */
    private static void gets(WillHouse house, int gift, int... due) {
        int all = 0;
        for (int kind = 0; kind < due.length; kind++) {
            Checks.same("gift " + gift + " gets in " + kind, house.gets(gift, kind), due[kind]);
            all += due[kind];
        }
        Checks.same("gift " + gift + " gets in all", house.gets(gift, -1), all);
    }

    private static void estate() {
        WillHouse house = Checks.house("thing a 10;thing b 20;thing c 40;cash 100;debt 7;child p;",
                "sum 30 to p;sold b 9 owed 4;lost c insured 3;rest 1 to p;");
        // cash 105, a 10, b 4, c 3
        estates(house, 122, 115, 0, 85, 0, 0, 30, -1);
        house.set(1, 122);
        estates(house, 122, 0, 0, 0, 0, 0, 0, 4);
        Checks.noElement("what 8", () -> house.estate(8));
        Checks.noElement("what -1", () -> house.estate(-1));
    }

    private static void unpaid() {
        WillHouse house = Checks.house("thing a 10;cash 5;debt 16;friend p;");
        estates(house, 15, 0, 1, 0, 0, 0, 0, -1);
        house.set(1, 15);
        estates(house, 15, 0, 0, 0, 0, 0, 0, -1);
        house.set(1, 14);
        estates(house, 15, 1, 0, 1, 0, 1, 0, -1);
        house.set(1, 99999);
        estates(house, 15, 0, 99984, 0, 0, 0, 0, -1);
    }

    private static void intestateAndBona() {
        WillHouse house = Checks.house("cash 50;child p;friend q;issue r of p;rest 1 to q;sum 5 to q;");
        estates(house, 50, 50, 0, 45, 0, 0, 5, -1);
        house.renounce(0, true);
        estates(house, 50, 50, 0, 45, 45, 0, 5, -1);
        house.die(0);
        estates(house, 50, 50, 0, 45, 45, 0, 5, -1);
        house.die(2);
        estates(house, 50, 50, 0, 45, 0, 45, 5, -1);
        house.renounce(0, false);
        estates(house, 50, 50, 0, 45, 0, 0, 5, -1);
        house.die(1);
        estates(house, 50, 50, 0, 50, 0, 50, 0, -1);
    }

    private static void classesInTurn() {
        WillHouse house = Checks.house("thing a 9;cash 100;child p;child q;sum 10 to q;sum 20 to p rank 3;",
                "sum 30 to q rank 2;sum 41 to p rank 1;give a to q;");
        estates(house, 109, 109, 0, 0, 0, 0, 109, 4);
        gets(house, 0, 0, 0, 0, 0, 9, 0, 0);
        gets(house, 1, 0, 0, 0, 20, 0, 0, 0);
        gets(house, 4, 9, 0, 0, 0, 0, 0, 0);
        house.set(0, 101);
        estates(house, 110, 110, 0, 0, 0, 0, 110, -1);
        house.set(1, 35);
        estates(house, 110, 75, 0, 0, 0, 0, 75, 2);
        gets(house, 2, 0, 0, 25, 0, 0, 0, 0);
        gets(house, 1, 0, 0, 0, 0, 0, 0, 0);
        house.set(1, 60);
        // 50 for 9 and 41: nothing is left for 2, which is CUT then
        estates(house, 110, 50, 0, 0, 0, 0, 50, 2);
        house.set(1, 61);
        estates(house, 110, 49, 0, 0, 0, 0, 49, 1);
        house.set(1, 102);
        estates(house, 110, 8, 0, 0, 0, 0, 8, 0);
        gets(house, 4, 8, 0, 0, 0, 0, 0, 0);
        gets(house, 3, 0, 0, 0, 0, 0, 0, 0);
    }

    private static void cutByGreatestRests() {
        WillHouse alike = Checks.house("cash 20;child p;sum 10 to p;sum 10 to p;sum 10 to p;");
        gets(alike, 0, 0, 0, 0, 0, 7, 0, 0);
        gets(alike, 1, 0, 0, 0, 0, 7, 0, 0);
        gets(alike, 2, 0, 0, 0, 0, 6, 0, 0);
        // 5 by 7: rests 5, 3, 6 of 1, 2, 4
        WillHouse other = Checks.house("cash 5;child p;sum 1 to p;sum 2 to p;sum 4 to p;");
        gets(other, 0, 0, 0, 0, 0, 1, 0, 0);
        gets(other, 1, 0, 0, 0, 0, 1, 0, 0);
        gets(other, 2, 0, 0, 0, 0, 3, 0, 0);
        // things are given in 0, where all is alike with sums out of funds
        WillHouse things = Checks.house("thing a 10;thing b 20;debt 14;child p;from b 15 to p;give a to p;");
        gets(things, 0, 10, 0, 0, 0, 0, 0, 0);
        gets(things, 1, 6, 0, 0, 0, 0, 0, 0);
        dues(things, 0, 15, 0, 0, 0, 0, 0, 0);
        estates(things, 30, 16, 0, 0, 0, 0, 16, 0);
    }

    private static void demonstrative() {
        WillHouse house = Checks.house("thing a 10;cash 50;child p;child q;from a 6 to p;from a 6 to q rank 2;",
                "from a 3 to p rank 1;");
        dues(house, 0, 6, 0, 0, 0, 0, 0, 0);
        dues(house, 1, 4, 0, 2, 0, 0, 0, 0);
        dues(house, 2, 0, 3, 0, 0, 0, 0, 0);
        house.renounce(0, true);
        dues(house, 0, 0, 0, 0, 0, 0, 0, 0);
        dues(house, 1, 6, 0, 0, 0, 0, 0, 0);
        dues(house, 2, 3, 0, 0, 0, 0, 0, 0);
        house.lose(0, 7);
        dues(house, 1, 6, 0, 0, 0, 0, 0, 0);
        dues(house, 2, 1, 2, 0, 0, 0, 0, 0);
        house.undo();
        house.sell(0, 30, 0);
        dues(house, 1, 0, 0, 6, 0, 0, 0, 0);
        dues(house, 2, 0, 3, 0, 0, 0, 0, 0);
        gets(house, 1, 0, 0, 6, 0, 0, 0, 0);
    }

    private static void ruleWorth() {
        WillHouse house = Checks.house("thing a 10;thing b 20;thing c 30;thing d 40;cash 500;child p;give a to p;",
                "give b to p;give c to p;from d 40 to p;sold b 15 owed 8;lost c insured 99;lost d insured 0;");
        dues(house, 1, 8, 0, 0, 0, 0, 0, 0);
        house.set(4, 1);
        dues(house, 0, 10, 0, 0, 0, 0, 0, 0);
        dues(house, 1, 8, 0, 0, 0, 12, 0, 0);
        dues(house, 2, 99, 0, 0, 0, 0, 0, 0);
        dues(house, 3, 0, 0, 0, 0, 40, 0, 0);
        house.change(0, 77);
        house.lose(0, 7);
        dues(house, 0, 7, 0, 0, 0, 70, 0, 0);
        house.renounce(0, true);
        dues(house, 0, 0, 0, 0, 0, 0, 0, 0);
        house.renounce(0, false);
        house.set(2, 24);
        house.set(3, 10);
        // what it gets in 4 bears interest, what it gets in 0 does not
        dues(house, 0, 7, 0, 0, 0, 70, 7, 0);
    }

    private static void interest() {
        WillHouse house = Checks.house("thing f 100;cash 9000;child p;friend q;sum 1000 to p rank 1;sum 39 to p;",
                "from f 300 to q rank 3;rest 1 to p;months 24;");
        dues(house, 0, 0, 1000, 0, 0, 0, 50, 0);
        dues(house, 1, 0, 0, 0, 0, 39, 1, 0);
        dues(house, 2, 100, 0, 0, 200, 0, 10, 0);
        gets(house, 2, 100, 0, 0, 200, 0, 10, 0);
        // 9100 less 1339 less 61
        gets(house, 3, 0, 0, 0, 0, 0, 0, 7700);
        estates(house, 9100, 9100, 0, 7700, 0, 0, 1400, -1);
        house.set(2, 12);
        dues(house, 0, 0, 1000, 0, 0, 0, 0, 0);
        house.set(2, 13);
        dues(house, 0, 0, 1000, 0, 0, 0, 4, 0);
        house.set(3, 99);
        dues(house, 0, 0, 1000, 0, 0, 0, 82, 0);
        house.set(2, 240);
        dues(house, 0, 0, 1000, 0, 0, 0, 18810, 0);
        house.set(2, 0);
        dues(house, 0, 0, 1000, 0, 0, 0, 0, 0);
        house.undo();
        house.set(3, 0);
        dues(house, 0, 0, 1000, 0, 0, 0, 0, 0);
    }

    private static void interestCut() {
        WillHouse house = Checks.house("cash 1530;child p;sum 1000 to p;sum 500 to p;months 24;");
        estates(house, 1530, 1530, 0, 0, 0, 0, 1530, 5);
        gets(house, 0, 0, 0, 0, 0, 1000, 20, 0);
        gets(house, 1, 0, 0, 0, 0, 500, 10, 0);
        house.set(0, 1540);
        gets(house, 0, 0, 0, 0, 0, 1000, 27, 0);
        gets(house, 1, 0, 0, 0, 0, 500, 13, 0);
        house.set(0, 1575);
        estates(house, 1575, 1575, 0, 0, 0, 0, 1575, -1);
        house.set(0, 1200);
        // 4 and 5 are CUT: interest is DUE on what the GIFTS get alone
        estates(house, 1200, 1200, 0, 0, 0, 0, 1200, 4);
        dues(house, 0, 0, 0, 0, 0, 1000, 40, 0);
        gets(house, 0, 0, 0, 0, 0, 800, 0, 0);
    }

    private static void rest() {
        WillHouse house = Checks.house("cash 7;child p;friend q;rest 2 to p;rest 1 to p;rest 1 to q;");
        gets(house, 0, 0, 0, 0, 0, 0, 0, 3);
        gets(house, 1, 0, 0, 0, 0, 0, 0, 2);
        gets(house, 2, 0, 0, 0, 0, 0, 0, 2);
        dues(house, 0, 0, 0, 0, 0, 0, 0, 3);
        dues(house, 2, 0, 0, 0, 0, 0, 0, 2);
        estates(house, 7, 7, 0, 7, 0, 0, 0, -1);
        house.renounce(1, true);
        gets(house, 0, 0, 0, 0, 0, 0, 0, 5);
        gets(house, 1, 0, 0, 0, 0, 0, 0, 0);
        dues(house, 1, 0, 0, 0, 0, 0, 0, 0);
        gets(house, 2, 0, 0, 0, 0, 0, 0, 2);
        house.die(1);
        gets(house, 0, 0, 0, 0, 0, 0, 0, 7);
    }

    private static void wrongClasses() {
        WillHouse house = Checks.house("cash 7;child p;rest 2 to p;");
        Checks.noIndex("due of gift 1", () -> house.due(1, 9));
        Checks.noIndex("due of gift -1", () -> house.due(-1, 0));
        Checks.noArgument("due in 7", () -> house.due(0, 7));
        Checks.noArgument("due in -1", () -> house.due(0, -1));
        Checks.noIndex("gift 1 gets", () -> house.gets(1, 9));
        Checks.noIndex("gift -1 gets", () -> house.gets(-1, -1));
        Checks.noArgument("gets in 7", () -> house.gets(0, 7));
        Checks.noArgument("gets in -2", () -> house.gets(0, -2));
        Checks.noArgument("classed 7", () -> house.classed(7, 9));
        Checks.noArgument("classed -1", () -> house.classed(-1, 0));
        Checks.noElement("classed what 3", () -> house.classed(6, 3));
        Checks.noElement("classed what -1", () -> house.classed(0, -1));
        Checks.noArgument("leastDebt 5", () -> house.leastDebt(5));
        Checks.noArgument("leastDebt -1", () -> house.leastDebt(-1));
        Checks.noArgument("needed 5", () -> house.needed(5));
        Checks.noArgument("needed -1", () -> house.needed(-1));
        Checks.noIndex("part of gift 1", () -> house.part(1));
        Checks.noIndex("part of gift -1", () -> house.part(-1));
        Checks.noIndex("left of thing 0", () -> house.left(0));
        Checks.noIndex("left of thing -1", () -> house.left(-1));
        Checks.noIndex("itself of gift 1", () -> house.itself(1));
        Checks.noIndex("itself of gift -1", () -> house.itself(-1));
        Checks.noArgument("itself of a rest", () -> house.itself(0));
    }

    private static void classed() {
        WillHouse house = Checks.house("thing a 9;cash 30;child p;sum 10 to p rank 2;sum 40 to p rank 2;",
                "give a to p;rest 1 to p;rest 1 to p;sum 10 to p rank 2;");
        int[][] due = {{9, 9, 1}, {0, 0, 0}, {60, 30, 3}, {0, 0, 0}, {0, 0, 0}, {0, 0, 0}, {0, 0, 0}};
        for (int kind = 0; kind < due.length; kind++) {
            for (int what = 0; what < 3; what++) {
                Checks.same("classed " + kind + " " + what, house.classed(kind, what), due[kind][what]);
            }
        }
        house.set(0, 61);
        Checks.same("the rest of 1 is due to one of two", house.classed(6, 2), 1);
        Checks.same("the rest", house.classed(6, 0), 1);
        house.set(2, 24);
        house.set(0, 100);
        // 0, 2, 0 of 10, 40, 10 at 5 of a hundred a year
        Checks.same("interest", house.classed(5, 0), 2);
        Checks.same("interest", house.classed(5, 2), 1);
        Checks.same("the rest", house.classed(6, 1), 38);
        house.renounce(3, true);
        house.renounce(4, true);
        Checks.same("intestate", house.estate(4), 38);
        Checks.same("without what is intestate", house.classed(6, 0), 0);
        Checks.same("without what is intestate", house.classed(6, 1), 0);
    }

    private static void itself() {
        WillHouse house = Checks.house("thing a 9;thing b 1;child p;sum 1 to p;give a to p;from b 1 to p;cash 0;");
        Checks.yes("held", house.itself(1));
        Checks.noArgument("a sum", () -> house.itself(0));
        Checks.noArgument("out of a fund", () -> house.itself(2));
        house.renounce(1, true);
        Checks.no("lapses", house.itself(1));
        house.undo();
        house.set(1, 1);
        Checks.no("0 is cut", house.itself(1));
        house.set(0, 1);
        Checks.yes("4 is cut alone", house.itself(1));
        house.lose(0, 9);
        Checks.no("lost", house.itself(1));
        house.undo();
        house.sell(0, 9, 9);
        Checks.no("sold", house.itself(1));
    }

    private static void leastDebt() {
        WillHouse house = Checks.house("thing a 10;cash 100;child p;give a to p;sum 20 to p rank 1;sum 30 to p rank 3;");
        int[] due = {101, 81, -1, 51, -1};
        for (int kind = 0; kind < due.length; kind++) {
            Checks.same("least debt of " + kind, house.leastDebt(kind), due[kind]);
        }
        house.set(1, 5000);
        Checks.same("debt as it is does not count", house.leastDebt(3), 51);
        house.set(0, 50);
        Checks.same("least debt", house.leastDebt(3), 1);
        house.set(0, 49);
        Checks.same("no debt is needed", house.leastDebt(3), 0);
        house.set(0, 0);
        Checks.same("not below 0", house.leastDebt(3), 0);
        house.set(0, 99999);
        Checks.same("above 99999", house.leastDebt(0), 100000);
        house.renounce(2, true);
        Checks.same("due nothing", house.leastDebt(3), -1);
    }

    private static void needed() {
        WillHouse house = Checks.house("thing a 10;thing b 5;cash 7;child p;give a to p;sum 20 to p rank 1;",
                "sum 30 to p rank 3;");
        int[] due = {0, 15, 15, 45, 45};
        for (int kind = 0; kind < due.length; kind++) {
            Checks.same("needed for " + kind, house.needed(kind), due[kind]);
        }
        house.set(1, 6);
        Checks.same("needed", house.needed(0), 1);
        house.set(1, 99954);
        Checks.same("needed", house.needed(3), 99999);
        house.set(1, 99955);
        Checks.same("needed", house.needed(3), -1);
        house.set(0, 99999);
        Checks.same("cash as it is does not count", house.needed(3), -1);
        house.renounce(0, true);
        Checks.same("nothing is due", house.needed(0), 0);
        Checks.same("something is due", house.needed(1), 99960);
    }

    private static void part() {
        WillHouse house = Checks.house("thing a 10;cash 20;child p;from a 20 to p;sum 20 to p;rest 1 to p;months 24;");
        // 10 in 0; 20 left by 10 and 20 in 4: 7 (of 6 and two thirds), 13
        Checks.same("part", house.part(0), 850);
        Checks.same("part", house.part(1), 650);
        Checks.same("due nothing there", house.part(2), -1);
        house.set(0, 9000);
        Checks.same("all, without interest", house.part(0), 1000);
        Checks.same("all", house.part(1), 1000);
        Checks.same("the rest does not count", house.part(2), -1);
        house.set(1, 99999);
        Checks.same("nothing", house.part(0), 0);
        house.renounce(0, true);
        Checks.same("lapses", house.part(0), -1);
    }

    private static void left() {
        WillHouse house = Checks.house("thing a 10;thing b 20;thing c 5;child p;from a 6 to p;give b to p;from a 3 to p;",
                "debt 99999;");
        Checks.same("fund", house.left(0), 1);
        Checks.same("given", house.left(1), 20);
        Checks.same("neither", house.left(2), 5);
        house.renounce(0, true);
        Checks.same("one lapses", house.left(0), 7);
        house.change(0, 2);
        Checks.same("all", house.left(0), 0);
        house.lose(2, 4);
        Checks.same("insured", house.left(2), 4);
        Checks.noIndex("thing 3", () -> house.left(3));
    }

    private static void greatNumbers() {
        WillHouse house = Checks.house("thing a 9999;thing b 9999;thing c 9999;cash 99999;child p;give a to p;",
                "give b to p;give c to p;sum 9999 to p;sum 9999 to p;sum 9999 to p;months 240;rate 99;");
        // 9999 times 99 times 228 by 1200: 188081, thrice; 99999 less 29997 is left
        dues(house, 3, 0, 0, 0, 0, 9999, 188081, 0);
        gets(house, 3, 0, 0, 0, 0, 9999, 23334, 0);
        gets(house, 5, 0, 0, 0, 0, 9999, 23334, 0);
        estates(house, 129996, 129996, 0, 0, 0, 0, 129996, 5);
        Checks.same("least debt", house.leastDebt(4), 70003);
        Checks.same("needed", house.needed(4), 29997);
    }
}
