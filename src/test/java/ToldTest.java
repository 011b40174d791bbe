/** Promises 7 to 9 and 39: what is told of THINGS, PERSONS, GIFTS, and how many there are. */
final class ToldTest {
    public static void main(String[] args) {
        things();
        persons();
        stocks();
        gifts();
        lapses();
        ademption();
        counts();
        Checks.close("ToldTest");
    }

    private static void thing(WillHouse house, int thing, int... due) {
        for (int what = 0; what < due.length; what++) {
            Checks.same("thing " + thing + " what " + what, house.thing(thing, what), due[what]);
        }
    }

    private static void things() {
        WillHouse house = Checks.house("thing a 50;thing b 60;thing c 70;thing d 80;",
                "sold b 40 owed 15;lost c insured 9;changed d 99;sold d 30 owed 0;");
        thing(house, 0, 50, 0, -1, -1, 50);
        thing(house, 1, 60, 1, 40, 15, 15);
        thing(house, 2, 70, 2, -1, 9, 9);
        thing(house, 3, 99, 1, 30, 0, 0);
        house.lose(0, 0);
        thing(house, 0, 50, 2, -1, 0, 0);
        house.undo();
        thing(house, 0, 50, 0, -1, -1, 50);
        Checks.noIndex("thing 4", () -> house.thing(4, 0));
        Checks.noIndex("thing -1", () -> house.thing(-1, 9));
        Checks.noElement("what 5", () -> house.thing(0, 5));
        Checks.noElement("what -1", () -> house.thing(0, -1));
    }

    private static void person(WillHouse house, int person, int... due) {
        for (int what = 0; what < due.length; what++) {
            Checks.same("person " + person + " what " + what, house.person(person, what), due[what]);
        }
    }

    private static void persons() {
        WillHouse house = Checks.house("child a;friend b;issue c of a;issue d of b;issue e of c;dead c;dead b;dead e;");
        person(house, 0, -1, 1, 1, 0, 0, 1);
        person(house, 1, -1, 0, 0, 1, 0, 1);
        person(house, 2, 0, 0, 1, 1, 1, 0);
        person(house, 3, 1, 0, 0, 0, 0, 1);
        person(house, 4, 2, 0, 1, 1, 1, 0);
        Checks.noIndex("person 5", () -> house.person(5, 0));
        Checks.noIndex("person -1", () -> house.person(-1, 9));
        Checks.noElement("what 6", () -> house.person(0, 6));
        Checks.noElement("what -1", () -> house.person(0, -1));
    }

    private static void stocks() {
        // a is dead: b lives, its issue does not count; c is dead: of it d and e live
        WillHouse house = Checks.house("child a;issue b of a;issue c of a;issue d of c;issue e of c;",
                "issue f of b;issue g of a;dead a;dead c;dead g;");
        Checks.same("living", house.person(0, 5), 3);
        Checks.same("living", house.person(1, 5), 1);
        Checks.same("living", house.person(2, 5), 2);
        Checks.same("empty", house.person(6, 4), 1);
        house.die(1);
        Checks.same("f comes for b", house.person(0, 5), 3);
        house.die(5);
        Checks.same("nobody of b", house.person(0, 5), 2);
        Checks.same("empty", house.person(1, 4), 1);
        Checks.same("not empty", house.person(0, 4), 0);
    }

    private static void gift(WillHouse house, int gift, int... due) {
        for (int what = 0; what < due.length; what++) {
            Checks.same("gift " + gift + " what " + what, house.gift(gift, what), due[what]);
        }
    }

    private static void gifts() {
        WillHouse house = Checks.house("thing a 5;thing b 6;child p;friend q;rest 3 to q;from b 7 to p rank 2;",
                "give a to q;sum 8 to p;sum 9 to q rank 1;from b 1 to q;");
        gift(house, 0, 3, 1, -1, 3, -1, 0, 0);
        gift(house, 1, 2, 0, 1, 7, 2, 0, 0);
        gift(house, 2, 0, 1, 0, -1, -1, 0, 0);
        gift(house, 3, 1, 0, -1, 8, 4, 0, 0);
        gift(house, 4, 1, 1, -1, 9, 1, 0, 0);
        gift(house, 5, 2, 1, 1, 1, 4, 0, 0);
        Checks.noIndex("gift 6", () -> house.gift(6, 0));
        Checks.noIndex("gift -1", () -> house.gift(-1, 9));
        Checks.noElement("what 7", () -> house.gift(0, 7));
        Checks.noElement("what -1", () -> house.gift(0, -1));
    }

    private static void lapses() {
        WillHouse house = Checks.house("child a;friend b;issue c of a;issue d of b;",
                "sum 1 to a;sum 1 to b;sum 1 to c;sum 1 to d;");
        for (int gift = 0; gift < 4; gift++) {
            Checks.same("lapses", house.gift(gift, 5), 0);
        }
        house.die(1);
        Checks.same("a dead friend's issue takes nothing", house.gift(1, 5), 1);
        house.die(0);
        Checks.same("c is in the stock of a", house.gift(0, 5), 0);
        house.die(2);
        Checks.same("the stock is empty", house.gift(0, 5), 1);
        Checks.same("the stock is empty", house.gift(2, 5), 1);
        Checks.same("lives", house.gift(3, 5), 0);
        house.renounce(3, true);
        Checks.same("renounced", house.gift(3, 5), 1);
        house.renounce(3, false);
        Checks.same("not any more", house.gift(3, 5), 0);
        // one who lives takes, though it is no KIN and has no issue
        Checks.same("a friend", Checks.house("friend a;sum 1 to a;").gift(0, 5), 0);
        Checks.same("a friend's issue", Checks.house("friend a;issue b of a;dead a;sum 1 to b;").gift(0, 5), 0);
    }

    private static void ademption() {
        WillHouse house = Checks.house("thing a 5;thing b 5;thing c 5;thing d 5;thing e 5;thing f 5;child p;",
                "give a to p;give b to p;give c to p;give d to p;give e to p;from f 5 to p;",
                "sold b 5 owed 0;sold c 5 owed 1;lost d insured 0;lost e insured 9;lost f insured 0;");
        int[] due = {0, 2, 1, 2, 1, 0};
        for (int gift = 0; gift < due.length; gift++) {
            Checks.same("adeemed " + gift, house.gift(gift, 6), due[gift]);
        }
        house.renounce(1, true);
        Checks.same("adeemed though renounced", house.gift(1, 6), 2);
        Checks.same("a sum is not", Checks.house("child p;sum 1 to p;").gift(0, 6), 0);
    }

    private static void counts() {
        WillHouse house = Checks.house("thing a 5;thing b 5;thing c 5;cash 1;debt 2;months 3;rate 4;rule worth;",
                "child p;child q;friend r;friend s;sum 1 to p;sum 1 to q;rest 1 to r;rest 1 to s;give a to p;",
                "lost a insured 1;dead q;dead r;");
        house.renounce(0, true);
        house.write(0);
        // GIFTS 1 and 2 LAPSE for death, 0 is RENOUNCED
        int[] due = {3, 4, 5, 1, 2, 3, 4, 1, 2, 2, 3, 1, 1, 7, 1};
        for (int what = 0; what < due.length; what++) {
            Checks.same("count " + what, house.count(what), due[what]);
        }
        Checks.same("written", Checks.octets(house), "p 5 4:5");
        Checks.same("another what", house.count(15), -1);
        Checks.same("another what", house.count(-1), -1);
        Checks.same("another what", house.count(Integer.MIN_VALUE), -1);
    }
}
