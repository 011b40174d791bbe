/** Promises 10 to 16: acts, and what is undone. */
final class ActsTest {
    public static void main(String[] args) {
        sell();
        sellWrong();
        change();
        lose();
        die();
        renounce();
        set();
        undo();
        undoAll();
        latestSixteen();
        Checks.close("ActsTest");
    }

    private static void sell() {
        WillHouse house = Checks.house("thing a 50;thing b 9;thing c 9;thing d 9;cash 100;child p;");
        Checks.same("sell", house.sell(0, 40, 15), 125);
        Checks.same("cash", house.count(3), 125);
        Checks.same("sold", house.thing(0, 1), 1);
        Checks.same("price", house.thing(0, 2), 40);
        Checks.same("owed", house.thing(0, 3), 15);
        Checks.same("worth stays", house.thing(0, 0), 50);
        Checks.same("all owed", house.sell(1, 9999, 9999), 125);
        Checks.same("least price", house.sell(2, 1, 0), 126);
        Checks.same("acts", house.count(12), 3);
        Checks.same("set", house.set(0, 90000), 126);
        Checks.same("most cash", house.sell(3, 9999, 0), 99999);
    }

    private static void sellWrong() {
        WillHouse house = Checks.house("thing a 50;thing b 9;thing c 9;cash 99999;lost b insured 1;sold c 1 owed 1;");
        Checks.noIndex("thing 3", () -> house.sell(3, 0, 0));
        Checks.noIndex("thing -1", () -> house.sell(-1, 1, 0));
        Checks.noArgument("price 0", () -> house.sell(0, 0, 0));
        Checks.noArgument("price 10000", () -> house.sell(0, 10000, 10000));
        Checks.noArgument("price of a lost thing", () -> house.sell(1, 10000, 0));
        Checks.noArgument("owed -1", () -> house.sell(0, 5, -1));
        Checks.noArgument("owed 6", () -> house.sell(0, 5, 6));
        Checks.noArgument("owed most", () -> house.sell(0, 5, Integer.MAX_VALUE));
        Checks.noArgument("owed least", () -> house.sell(0, 5, Integer.MIN_VALUE));
        Checks.noState("cash 100000", () -> house.sell(0, 5, 4));
        Checks.noState("lost", () -> house.sell(1, 5, 5));
        Checks.noState("sold", () -> house.sell(2, 5, 5));
        Checks.same("no act", house.count(12), 0);
        Checks.same("held", house.thing(0, 1), 0);
        Checks.same("cash", house.count(3), 99999);
        Checks.same("sell", house.sell(0, 5, 5), 99999);
    }

    private static void change() {
        WillHouse house = Checks.house("thing a 50;thing b 60;");
        Checks.same("change", house.change(0, 9999), 50);
        Checks.same("change", house.change(0, 1), 9999);
        Checks.same("change", house.change(0, 1), 1);
        Checks.same("worth", house.thing(0, 0), 1);
        Checks.same("brings", house.thing(0, 4), 1);
        Checks.same("another", house.thing(1, 0), 60);
        Checks.same("acts", house.count(12), 3);
        house.lose(0, 3);
        Checks.noIndex("thing 2", () -> house.change(2, 0));
        Checks.noIndex("thing -1", () -> house.change(-1, 5));
        Checks.noArgument("worth 0", () -> house.change(0, 0));
        Checks.noArgument("worth 10000", () -> house.change(1, 10000));
        Checks.noState("lost", () -> house.change(0, 5));
        house.sell(1, 3, 3);
        Checks.noState("sold", () -> house.change(1, 5));
        Checks.same("acts", house.count(12), 5);
        Checks.same("worth", house.thing(1, 0), 60);
    }

    private static void lose() {
        WillHouse house = Checks.house("thing a 50;thing b 60;thing c 70;cash 5;");
        Checks.same("lose", house.lose(0, 0), 50);
        house.change(1, 61);
        Checks.same("lose", house.lose(1, 9999), 61);
        Checks.same("lost", house.thing(1, 1), 2);
        Checks.same("insured", house.thing(1, 3), 9999);
        Checks.same("cash", house.count(3), 5);
        Checks.noIndex("thing 3", () -> house.lose(3, -1));
        Checks.noIndex("thing -1", () -> house.lose(-1, 5));
        Checks.noArgument("insured -1", () -> house.lose(2, -1));
        Checks.noArgument("insured 10000", () -> house.lose(0, 10000));
        Checks.noState("lost", () -> house.lose(0, 5));
        house.sell(2, 3, 3);
        Checks.noState("sold", () -> house.lose(2, 5));
        Checks.same("acts", house.count(12), 4);
    }

    private static void die() {
        WillHouse house = Checks.house("child a;child b;friend c;dead b;");
        Checks.same("die", house.die(0), 1);
        Checks.noState("dead", () -> house.die(0));
        Checks.noState("dead", () -> house.die(1));
        Checks.same("die", house.die(2), 0);
        Checks.noIndex("person 3", () -> house.die(3));
        Checks.noIndex("person -1", () -> house.die(-1));
        Checks.same("acts", house.count(12), 2);
        Checks.same("undo", house.undo(), 1);
        Checks.same("lives", house.person(2, 3), 0);
        Checks.same("dead", house.person(0, 3), 1);
        Checks.same("living", house.count(8), 1);
    }

    private static void renounce() {
        WillHouse house = Checks.house("child a;sum 5 to a;rest 1 to a;cash 5;");
        Checks.no("was", house.renounce(0, false));
        Checks.no("was", house.renounce(0, true));
        Checks.yes("was", house.renounce(0, true));
        Checks.same("renounced", house.count(14), 1);
        Checks.no("was", house.renounce(1, true));
        Checks.same("renounced", house.count(14), 2);
        Checks.yes("was", house.renounce(0, false));
        Checks.same("renounced", house.count(14), 1);
        Checks.same("acts where nothing changes, too", house.count(12), 5);
        Checks.noIndex("gift 2", () -> house.renounce(2, true));
        Checks.noIndex("gift -1", () -> house.renounce(-1, true));
        Checks.same("acts", house.count(12), 5);
    }

    private static void set() {
        WillHouse house = new WillHouse();
        int[] most = {99999, 99999, 240, 99, 1};
        int[] first = {0, 0, 0, 5, 0};
        for (int what = 0; what < 5; what++) {
            int told = what;
            Checks.same("set", house.set(what, most[what]), first[what]);
            Checks.same("count", house.count(3 + what), most[what]);
            Checks.noArgument("above", () -> house.set(told, most[told] + 1));
            Checks.noArgument("below", () -> house.set(told, -1));
            Checks.same("set", house.set(what, 0), most[what]);
            Checks.same("count", house.count(3 + what), 0);
        }
        Checks.same("acts", house.count(12), 10);
        Checks.same("set where nothing changes", house.set(0, 0), 0);
        Checks.same("acts", house.count(12), 11);
        Checks.noElement("what 5", () -> house.set(5, 0));
        Checks.noElement("what -1", () -> house.set(-1, -1));
        Checks.noElement("what 5 of a wrong number", () -> house.set(5, 100000));
        Checks.same("acts", house.count(12), 11);
    }

    private static void undo() {
        WillHouse house = Checks.house("thing a 50;thing b 60;cash 5;child p;sum 5 to p;");
        Checks.same("none", house.undo(), -1);
        house.sell(0, 7, 2);
        house.change(1, 9);
        house.lose(1, 3);
        house.die(0);
        house.renounce(0, true);
        house.set(4, 1);
        Checks.same("undo", house.undo(), 5);
        Checks.same("rule", house.count(7), 0);
        Checks.same("renounced", house.count(14), 1);
        Checks.same("undo", house.undo(), 4);
        Checks.same("renounced", house.count(14), 0);
        Checks.same("living", house.count(8), 0);
        Checks.same("undo", house.undo(), 3);
        Checks.same("living", house.count(8), 1);
        Checks.same("undo", house.undo(), 2);
        Checks.same("held again", house.thing(1, 1), 0);
        Checks.same("brings", house.thing(1, 4), 9);
        Checks.same("undo", house.undo(), 1);
        Checks.same("worth", house.thing(1, 0), 60);
        Checks.same("cash", house.count(3), 10);
        Checks.same("undo", house.undo(), 0);
        Checks.same("cash", house.count(3), 5);
        Checks.same("held again", house.thing(0, 1), 0);
        Checks.same("no price", house.thing(0, 2), -1);
        Checks.same("none", house.undo(), -1);
        Checks.same("cash", house.count(3), 5);
    }

    private static void undoAll() {
        WillHouse house = Checks.house("cash 5;child p;");
        house.set(0, 6);
        house.set(0, 7);
        house.undo();
        house.set(0, 8);
        Checks.same("undo", house.undo(), 1);
        Checks.same("cash", house.count(3), 6);
        Checks.same("taken is reckoned anew", house.taken(0, 0), 6);
        Checks.same("undo", house.undo(), 0);
        Checks.same("taken is reckoned anew", house.taken(0, 0), 5);
        // what was WRITTEN and the TAPE are no part of what is UNDONE
        house.set(0, 9);
        house.write(0);
        house.feed(0, 0, 0, 0, 0);
        house.undo();
        Checks.same("written", Checks.octets(house), "p 9 i:9");
        Checks.yes("tape", house.end(20));
    }

    private static void latestSixteen() {
        WillHouse house = new WillHouse();
        for (int cash = 1; cash <= 20; cash++) {
            house.set(0, cash);
            Checks.same("acts", house.count(12), Math.min(16, cash));
        }
        for (int left = 15; left >= 0; left--) {
            Checks.same("undo", house.undo(), left);
            Checks.same("cash", house.count(3), 4 + left);
        }
        Checks.same("undo", house.undo(), -1);
        Checks.same("cash", house.count(3), 4);
        house.set(0, 50);
        Checks.same("undo", house.undo(), 0);
        Checks.same("cash", house.count(3), 4);
    }
}
