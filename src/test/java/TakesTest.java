/** Promises 26 to 30: who TAKES how much, STOCKS, HEIRS. */
final class TakesTest {
    public static void main(String[] args) {
        takesHerself();
        passedByStocks();
        passedClassByClass();
        passedOverTheEmpty();
        passedOverTheLiving();
        takesNothing();
        taken();
        intestate();
        intestatePassed();
        stock();
        heir();
        ranked();
        wrongNumbers();
        fullHouse();
        fullStock();
        Checks.close("TakesTest");
    }

    private static void takes(WillHouse house, int gift, int... due) {
        for (int person = 0; person < due.length; person++) {
            Checks.same("of gift " + gift + " takes " + person, house.takes(gift, person), due[person]);
        }
    }

    private static void takesHerself() {
        WillHouse house = Checks.house("thing a 9;cash 30;child p;friend q;issue r of p;sum 10 to q;give a to p;",
                "rest 1 to r;");
        takes(house, 0, 0, 10, 0);
        takes(house, 1, 9, 0, 0);
        takes(house, 2, 0, 0, 20);
    }

    private static void passedByStocks() {
        // a is dead: b, c, and d, of which e and f come
        WillHouse house = Checks.house("cash 10;child a;issue b of a;issue c of a;issue d of a;issue e of d;issue f of d;",
                "sum 10 to a;dead a;dead d;");
        takes(house, 0, 0, 4, 3, 0, 2, 1);
        house.die(1);
        takes(house, 0, 0, 0, 5, 0, 3, 2);
        house.die(4);
        takes(house, 0, 0, 0, 5, 0, 0, 5);
        house.die(2);
        takes(house, 0, 0, 0, 0, 0, 0, 10);
        house.die(5);
        takes(house, 0, 0, 0, 0, 0, 0, 0);
        Checks.same("it lapses", house.estate(5), 10);
    }

    private static void passedClassByClass() {
        WillHouse house = Checks.house("thing t 3;cash 600;child a;issue b of a;issue c of a;from t 6 to a;",
                "sum 240 to a rank 1;dead a;rate 5;months 13;rest 1 to a;");
        // 3 in 0 and 3 in 4: 2 and 1 each
        takes(house, 0, 0, 4, 2);
        // 240 in 1, 1 in 5
        takes(house, 1, 0, 121, 120);
        // 603 less 6 less 240 less 1
        takes(house, 2, 0, 178, 178);
        Checks.same("all", house.taken(1, 0), 303);
    }

    private static void passedOverTheEmpty() {
        // b is dead without issue, c is dead with issue that is dead: d alone comes
        WillHouse house = Checks.house("cash 11;child a;issue b of a;issue c of a;issue d of a;issue e of c;sum 11 to a;",
                "dead a;dead b;dead c;dead e;");
        takes(house, 0, 0, 0, 0, 11, 0);
        // what is given to c itself lapses, what is given to d's parent does not
        Checks.same("lapses", Checks.house("child a;issue c of a;issue d of a;dead c;sum 1 to c;").gift(0, 5), 1);
    }

    private static void passedOverTheLiving() {
        WillHouse house = Checks.house("cash 12;child a;issue b of a;issue c of b;child d;issue e of d;issue f of c;",
                "sum 12 to a;dead a;dead c;");
        takes(house, 0, 0, 12, 0, 0, 0, 0);
        house.die(1);
        takes(house, 0, 0, 0, 0, 0, 0, 12);
    }

    private static void takesNothing() {
        WillHouse house = Checks.house("cash 12;child a;friend b;issue c of b;sum 5 to b;dead b;sum 3 to a;");
        takes(house, 0, 0, 0, 0);
        takes(house, 1, 3, 0, 0);
        house.renounce(1, true);
        takes(house, 1, 0, 0, 0);
    }

    private static void taken() {
        WillHouse house = Checks.house("thing t 5;cash 100;child a;child b;issue c of a;issue d of a;friend e;give t to a;",
                "sum 11 to a;sum 7 to c;sum 9 to e;dead a;");
        // c: 3 of t, 6 of 11, 7, of 73 intestate: b 36, a 37: c 19, d 18
        int[][] due = {{0, 0, 0}, {36, 36, 0}, {35, 19, 9}, {25, 18, 7}, {9, 0, 0}};
        for (int person = 0; person < due.length; person++) {
            for (int what = 0; what < 3; what++) {
                Checks.same("taken by " + person + " what " + what, house.taken(person, what), due[person][what]);
            }
        }
    }

    private static void intestate() {
        WillHouse house = Checks.house("cash 11;friend q;child a;child b;child c;issue d of a;dead b;");
        // b's STOCK is EMPTY: a and c are HEIRS
        int[] due = {0, 6, 0, 5, 0};
        for (int person = 0; person < due.length; person++) {
            Checks.same("taken by " + person, house.taken(person, 1), due[person]);
        }
        house.die(4);
        Checks.same("a lives", house.taken(1, 1), 6);
        house.die(1);
        Checks.same("c alone", house.taken(3, 1), 11);
        house.die(3);
        Checks.same("a friend is no heir", house.taken(0, 0), 0);
        Checks.same("nobody's", house.estate(5), 11);
    }

    private static void intestatePassed() {
        WillHouse house = Checks.house("cash 14;child a;child b;child c;issue d of b;issue e of b;issue f of b;dead b;");
        // 5, 5, 4: of 5 2, 2, 1
        int[] due = {5, 0, 4, 2, 2, 1};
        for (int person = 0; person < due.length; person++) {
            Checks.same("taken by " + person, house.taken(person, 1), due[person]);
            Checks.same("in all by " + person, house.taken(person, 0), due[person]);
            Checks.same("of gifts by " + person, house.taken(person, 2), 0);
        }
    }

    private static void stocks(WillHouse house, int person, int... due) {
        for (int k = 0; k < due.length; k++) {
            Checks.same("stock of " + person + " at " + k, house.stock(person, k), due[k]);
        }
        Checks.same("stock of " + person + " behind", house.stock(person, due.length), -1);
        Checks.same("stock of " + person + " far behind", house.stock(person, Integer.MAX_VALUE), -1);
        Checks.same("stock of " + person + " ahead", house.stock(person, -1), -1);
        Checks.same("stock of " + person + " far ahead", house.stock(person, Integer.MIN_VALUE), -1);
    }

    private static void stock() {
        WillHouse house = Checks.house("child a;friend b;issue c of a;issue d of b;issue e of a;issue f of c;issue g of e;",
                "issue h of e;");
        stocks(house, 0, 0);
        stocks(house, 4, 4);
        house.die(0);
        stocks(house, 0, 2, 4);
        house.die(2);
        stocks(house, 0, 4, 5);
        house.die(4);
        stocks(house, 0, 5, 6, 7);
        stocks(house, 4, 6, 7);
        stocks(house, 2, 5);
        stocks(house, 1, 1);
        house.die(1);
        stocks(house, 1, 3);
        house.die(5);
        stocks(house, 2);
        stocks(house, 0, 6, 7);
    }

    private static void heirs(WillHouse house, int... due) {
        for (int k = 0; k < due.length; k++) {
            Checks.same("heir " + k, house.heir(k), due[k]);
        }
        Checks.same("heirs", house.count(11), due.length);
        Checks.same("heir behind", house.heir(due.length), -1);
        Checks.same("heir far behind", house.heir(Integer.MAX_VALUE), -1);
        Checks.same("heir ahead", house.heir(-1), -1);
        Checks.same("heir far ahead", house.heir(Integer.MIN_VALUE), -1);
    }

    private static void heir() {
        WillHouse house = Checks.house("friend q;child a;issue b of a;child c;child d;");
        heirs(house, 1, 3, 4);
        house.die(1);
        heirs(house, 1, 3, 4);
        house.die(3);
        heirs(house, 1, 4);
        house.die(2);
        heirs(house, 4);
        house.die(4);
        heirs(house);
    }

    private static void ranked() {
        WillHouse house = Checks.house("cash 50;child a;friend b;friend c;child d;sum 20 to c;sum 5 to b;sum 20 to d;",
                "rest 1 to b;");
        // a 0, b 10, c 20, d 20
        int[] due = {2, 3, 1, 0, -1};
        for (int k = 0; k < due.length; k++) {
            Checks.same("ranked " + k, house.ranked(k), due[k]);
        }
        house.die(3);
        // a 0, b 30, c 20, d 0, who is told, too
        int[] then = {1, 2, 0, 3, -1};
        for (int k = 0; k < then.length; k++) {
            Checks.same("ranked " + k, house.ranked(k), then[k]);
        }
        Checks.same("ahead", house.ranked(-1), -1);
        Checks.same("far ahead", house.ranked(Integer.MIN_VALUE), -1);
        Checks.same("far behind", house.ranked(Integer.MAX_VALUE), -1);
    }

    /** As many THINGS, PERSONS, GIFTS as there may be. */
    private static void fullHouse() {
        String letters = "abcdefghijkl";
        StringBuilder text = new StringBuilder("cash 40;");
        for (int i = 0; i < 8; i++) {
            text.append("thing ").append(letters.charAt(i)).append(" 2;");
        }
        for (int i = 0; i < 12; i++) {
            text.append("child ").append(letters.charAt(i)).append(';');
        }
        for (int i = 0; i < 12; i++) {
            text.append("sum 4 to ").append(letters.charAt(i)).append(';');
        }
        WillHouse house = Checks.house(text.toString());
        int[] counts = {8, 12, 12, 40, 0, 0, 5, 0, 12, 8, 0, 12, 0, 0, 0};
        for (int what = 0; what < counts.length; what++) {
            Checks.same("count " + what, house.count(what), counts[what]);
        }
        Checks.same("the rest of 56", house.estate(3), 8);
        heirs(house, 0, 1, 2, 3, 4, 5, 6, 7, 8, 9, 10, 11);
        for (int person = 0; person < 12; person++) {
            Checks.same("sum", house.takes(person, person), 4);
            Checks.same("intestate", house.taken(person, 1), person < 8 ? 1 : 0);
            Checks.same("in all", house.taken(person, 0), person < 8 ? 5 : 4);
            Checks.same("of others", house.taken(person, 2), 0);
            Checks.same("ranked", house.ranked(person), person);
            Checks.same("not adeemed", house.gift(person, 6), 0);
            Checks.same("gets", house.gets(person, -1), 4);
            stocks(house, person, person);
        }
        Checks.same("ranked", house.ranked(12), -1);
        Checks.same("envied", house.envied(11), 0);
        Checks.same("written", house.write(11), 8);
        Checks.same("classed", house.classed(4, 1), 48);
        Checks.same("classed", house.classed(4, 2), 12);
        Checks.same("needed", house.needed(4), 32);
        Checks.same("least debt", house.leastDebt(4), 9);
        house.die(0);
        // 56 less 44 is 12: to 11 heirs
        Checks.same("intestate", house.taken(1, 1), 2);
        Checks.same("intestate", house.taken(11, 1), 1);
    }

    /** Twelve GIFTS of which each PASSES to eleven. */
    private static void fullStock() {
        StringBuilder text = new StringBuilder("cash 25;child a;");
        for (char name = 'b'; name <= 'l'; name++) {
            text.append("issue ").append(name).append(" of a;");
        }
        text.append("rest 1 to a;".repeat(12)).append("dead a;");
        WillHouse house = Checks.house(text.toString());
        // 3 of the first, 2 of each other
        int[] due = {0, 12, 12, 1, 0, 0, 0, 0, 0, 0, 0, 0};
        for (int person = 0; person < 12; person++) {
            Checks.same("taken by " + person, house.taken(person, 0), due[person]);
            Checks.same("of others by " + person, house.taken(person, 2), due[person]);
            Checks.same("stock", house.stock(0, person), person < 11 ? person + 1 : -1);
        }
        house.set(0, 11 * 12 * 10);
        for (int person = 1; person < 12; person++) {
            Checks.same("taken by " + person, house.taken(person, 0), 120);
        }
        house.set(0, 36 + 11);
        for (int gift = 0; gift < 12; gift++) {
            Checks.same("the rest", house.gets(gift, 6), gift < 11 ? 4 : 3);
        }
    }

    private static void wrongNumbers() {
        WillHouse house = Checks.house("child a;child b;sum 1 to a;");
        Checks.noIndex("gift 1", () -> house.takes(1, 0));
        Checks.noIndex("gift -1", () -> house.takes(-1, 0));
        Checks.noIndex("person 2", () -> house.takes(0, 2));
        Checks.noIndex("person -1", () -> house.takes(0, -1));
        Checks.noIndex("person 2", () -> house.taken(2, 9));
        Checks.noIndex("person -1", () -> house.taken(-1, 0));
        Checks.noElement("what 3", () -> house.taken(0, 3));
        Checks.noElement("what -1", () -> house.taken(0, -1));
        Checks.noIndex("person 2", () -> house.stock(2, 0));
        Checks.noIndex("person -1", () -> house.stock(-1, -1));
    }
}
