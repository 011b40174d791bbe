/** Promises 31 to 38: what would be if, and what is WRITTEN. */
final class IfTest {
    public static void main(String[] args) {
        ifDead();
        ifDeadWrong();
        ifSold();
        ifSoldWrong();
        ifDebt();
        ifRenounced();
        ifHeld();
        envied();
        asIfChangesNothing();
        written();
        octets();
        Checks.close("IfTest");
    }

    private static void ifDead() {
        WillHouse house = Checks.house("cash 90;child a;child b;friend c;issue d of a;issue e of c;sum 30 to a;",
                "sum 10 to c;rest 1 to b;");
        // a 30, b 50, c 10
        Checks.same("d of a", house.ifDead(3, 0), 30);
        Checks.same("e of c takes nothing", house.ifDead(4, 2), 0);
        Checks.same("b what c was given", house.ifDead(1, 2), 60);
        Checks.same("a of b's rest", house.ifDead(0, 1), 80);
        Checks.same("itself", house.ifDead(1, 1), 0);
        Checks.same("one without a part", house.ifDead(1, 4), 50);
        house.die(0);
        Checks.same("the issue, too", house.ifDead(1, 3), 80);
        Checks.same("of one who is dead", house.ifDead(0, 1), 0);
        Checks.same("d for a, as heir of b's rest, too", house.ifDead(3, 1), 80);
    }

    private static void ifDeadWrong() {
        WillHouse house = Checks.house("child a;child b;dead b;");
        Checks.noIndex("person 2", () -> house.ifDead(2, 1));
        Checks.noIndex("person -1", () -> house.ifDead(-1, 0));
        Checks.noIndex("other 2", () -> house.ifDead(1, 2));
        Checks.noIndex("other -1", () -> house.ifDead(0, -1));
        Checks.noState("dead", () -> house.ifDead(0, 1));
        Checks.noState("itself dead", () -> house.ifDead(1, 1));
        Checks.same("of one who is dead", house.ifDead(1, 0), 0);
    }

    private static void ifSold() {
        WillHouse house = Checks.house("thing t 50;thing u 9;cash 10;child a;child b;give t to a;from u 9 to b;");
        // intestate 10: 5 each
        Checks.same("a", house.taken(0, 0), 55);
        Checks.same("paid wholly", house.ifSold(0, 0, 40, 0), 25);
        Checks.same("owed", house.ifSold(0, 0, 40, 30), 40);
        Checks.same("b", house.ifSold(1, 0, 40, 30), 19);
        Checks.same("the fund is sold", house.ifSold(1, 1, 100, 0), 59);
        Checks.same("cash to the most", house.set(0, 99959), 10);
        Checks.same("cash 99999", house.ifSold(0, 0, 40, 0), 50000);
        Checks.same("held as ahead", house.thing(0, 1), 0);
        Checks.same("cash as ahead", house.count(3), 99959);
    }

    private static void ifSoldWrong() {
        WillHouse house = Checks.house("thing t 50;thing u 9;cash 99999;child a;lost u insured 5;");
        Checks.noIndex("person 1", () -> house.ifSold(1, 0, 0, 0));
        Checks.noIndex("person -1", () -> house.ifSold(-1, 0, 1, 1));
        Checks.noIndex("thing 2", () -> house.ifSold(0, 2, 0, 0));
        Checks.noIndex("thing -1", () -> house.ifSold(0, -1, 1, 1));
        Checks.noArgument("price 0", () -> house.ifSold(0, 0, 0, 0));
        Checks.noArgument("price 10000", () -> house.ifSold(0, 1, 10000, 10000));
        Checks.noArgument("owed 6", () -> house.ifSold(0, 0, 5, 6));
        Checks.noArgument("owed -1", () -> house.ifSold(0, 0, 5, -1));
        Checks.noState("lost", () -> house.ifSold(0, 1, 5, 5));
        Checks.noState("cash 100000", () -> house.ifSold(0, 0, 5, 4));
        Checks.same("all owed", house.ifSold(0, 0, 5, 5), 100009);
    }

    private static void ifDebt() {
        WillHouse house = Checks.house("thing t 50;cash 10;debt 5;child a;friend b;give t to b;");
        Checks.same("as it is", house.ifDebt(0, 5), 5);
        Checks.same("none", house.ifDebt(0, 0), 10);
        Checks.same("all", house.ifDebt(0, 10), 0);
        Checks.same("b", house.ifDebt(1, 11), 49);
        Checks.same("b", house.ifDebt(1, 99999), 0);
        Checks.same("debt stays", house.count(4), 5);
        Checks.noIndex("person 2", () -> house.ifDebt(2, -1));
        Checks.noIndex("person -1", () -> house.ifDebt(-1, 0));
        Checks.noArgument("debt -1", () -> house.ifDebt(0, -1));
        Checks.noArgument("debt 100000", () -> house.ifDebt(0, 100000));
    }

    private static void ifRenounced() {
        WillHouse house = Checks.house("thing t 50;cash 10;child a;friend b;give t to b;sum 20 to a;");
        Checks.same("a", house.taken(0, 0), 10);
        Checks.same("t comes to a", house.ifRenounced(0, 0), 60);
        Checks.same("b", house.ifRenounced(1, 0), 0);
        Checks.same("intestate instead", house.ifRenounced(0, 1), 10);
        Checks.same("stays", house.count(14), 0);
        house.renounce(0, true);
        Checks.same("one that is renounced", house.ifRenounced(0, 0), 60);
        Checks.noIndex("person 2", () -> house.ifRenounced(2, 0));
        Checks.noIndex("person -1", () -> house.ifRenounced(-1, 0));
        Checks.noIndex("gift 2", () -> house.ifRenounced(0, 2));
        Checks.noIndex("gift -1", () -> house.ifRenounced(0, -1));
    }

    private static void ifHeld() {
        WillHouse house = Checks.house("thing t 50;thing u 30;cash 10;child a;friend b;give t to b;sum 20 to a;",
                "from u 40 to a rank 2;rest 1 to a;sold t 60 owed 7;lost u insured 5;debt 70;");
        // cash 63, brings 12, available 5: cut in 0, where 7 and 5 are due
        Checks.same("gets", house.gets(0, -1), 3);
        Checks.same("t held: 118 less 70 by 50 and 5", house.ifHeld(0), 44);
        Checks.same("u held: 100 less 70 by 7 and 30", house.ifHeld(2), 24);
        house.set(1, 0);
        Checks.same("u held", house.ifHeld(2), 40);
        Checks.same("t held", house.ifHeld(0), 50);
        Checks.same("lost as ahead", house.thing(1, 1), 2);
        house.renounce(0, true);
        Checks.same("lapses", house.ifHeld(0), 0);
        house.undo();
        house.set(4, 1);
        house.set(0, 1000);
        Checks.same("with its worth", house.gets(0, -1), 50);
        house.set(2, 24);
        // 43 in 4 at 5 of a hundred a year
        Checks.same("with interest", house.gets(0, -1), 52);
        Checks.same("no interest, were it held", house.ifHeld(0), 50);
        Checks.noArgument("a sum", () -> house.ifHeld(1));
        Checks.noArgument("a rest", () -> house.ifHeld(3));
        Checks.noIndex("gift 4", () -> house.ifHeld(4));
        Checks.noIndex("gift -1", () -> house.ifHeld(-1));
        Checks.same("held already", Checks.house("thing t 5;child a;give t to a;").ifHeld(0), 5);
        // two gifts out of one fund
        WillHouse fund = Checks.house("thing t 50;child a;from t 30 to a;from t 30 to a;lost t insured 0;");
        Checks.same("the first", fund.ifHeld(0), 30);
        Checks.same("the second", fund.ifHeld(1), 20);
    }

    private static void envied() {
        WillHouse house = Checks.house("cash 90;child a;child b;friend c;friend d;sum 30 to c;sum 10 to b;sum 40 to d;");
        // would c die, a had 20; would d die, 25; would b die, all of 20
        Checks.same("of a", house.envied(0), 3);
        Checks.same("of b", house.envied(1), 3);
        // nothing changes for c: the first that lives
        Checks.same("of c", house.envied(2), 0);
        house.die(0);
        Checks.same("of c", house.envied(2), 1);
        Checks.same("of one who is dead", house.envied(0), 1);
        house.die(3);
        Checks.same("of b", house.envied(1), 2);
        house.die(2);
        Checks.same("no other", house.envied(1), -1);
        Checks.same("an other", house.envied(2), 1);
        house.die(1);
        Checks.same("nobody lives", house.envied(2), -1);
        Checks.noIndex("person 4", () -> house.envied(4));
        Checks.noIndex("person -1", () -> house.envied(-1));
        // were b or d to die, a had 20
        WillHouse alike = Checks.house("cash 90;child a;child b;friend c;friend d;sum 30 to c;sum 20 to b;sum 40 to d;");
        Checks.same("the first of several", alike.envied(0), 1);
        Checks.same("not itself", Checks.house("child a;child b;").envied(0), 1);
    }

    private static void asIfChangesNothing() {
        WillHouse house = Checks.house("thing t 50;cash 10;child a;child b;give t to a;");
        house.set(1, 2);
        house.ifDead(0, 1);
        house.ifSold(0, 0, 5, 1);
        house.ifDebt(0, 60);
        house.ifRenounced(0, 0);
        house.ifHeld(0);
        house.envied(0);
        Checks.same("a", house.taken(0, 0), 54);
        Checks.same("b", house.taken(1, 0), 4);
        Checks.same("acts", house.count(12), 1);
        Checks.same("living", house.count(8), 2);
        Checks.same("debt", house.count(4), 2);
        Checks.same("due", house.due(0, 0), 50);
        Checks.same("undo", house.undo(), 0);
        Checks.same("a", house.taken(0, 0), 55);
    }

    private static void written() {
        WillHouse house = Checks.house("thing t 50;cash 100;child ann;friend bobby;issue c of ann;give t to ann;",
                "sum 7 to bobby;sum 3 to c;sum 4 to ann;");
        Checks.same("ann", Checks.written(house, 0), "ann 140 0:50 3:4 i:86");
        Checks.same("bobby", Checks.written(house, 1), "bobby 7 1:7");
        house.die(0);
        Checks.same("ann", Checks.written(house, 0), "ann 0 dead");
        Checks.same("c", Checks.written(house, 2), "c 143 0:50 2:3 3:4 i:86");
        house.renounce(1, true);
        Checks.same("bobby", Checks.written(house, 1), "bobby 0");
        Checks.noIndex("person 3", () -> house.write(3));
        Checks.noIndex("person -1", () -> house.write(-1));
        Checks.same("still", Checks.octets(house), "bobby 0");
        Checks.same("one", Checks.written(Checks.house("cash 1;child a;"), 0), "a 1 i:1");
        Checks.same("one of a gift", Checks.written(Checks.house("cash 1;child a;sum 1 to a;"), 0), "a 1 0:1");
        WillHouse many = Checks.house("child abcdef;cash 99999;thing a 9999;" + "sum 1 to abcdef;".repeat(12));
        Checks.same("many", Checks.written(many, 0), "abcdef 109998 0:1 1:1 2:1 3:1 4:1 5:1 6:1 7:1 8:1 9:1 10:1 11:1 i:109986");
    }

    private static void octets() {
        WillHouse house = Checks.house("child a;cash 5;");
        Checks.same("nothing written", house.octet(0), -1);
        Checks.same("write", house.write(0), 7);
        Checks.same("octet", house.octet(0), 'a');
        Checks.same("octet", house.octet(1), ' ');
        Checks.same("octet", house.octet(6), '5');
        Checks.same("behind", house.octet(7), -1);
        Checks.same("far behind", house.octet(Integer.MAX_VALUE), -1);
        Checks.same("ahead", house.octet(-1), -1);
        house.set(0, 0);
        Checks.same("write", house.write(0), 3);
        Checks.same("octet", house.octet(2), '0');
        Checks.same("behind", house.octet(3), -1);
    }
}
