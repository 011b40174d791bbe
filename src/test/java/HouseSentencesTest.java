/** Terms 2: THINGS, what is there, KIN, STOCKS, what LAPSES, a test for each sentence. */
final class HouseSentencesTest {
    public static void main(String[] names) throws IllegalAccessException {
        Sentences.run(HouseSentencesTest.class, names);
    }

    @Sentence(of = "Terms 2", says = "A THING is HELD at first, SOLD or LOST.")
    static void heldAtFirst() {
        WillHouse house = Checks.house("thing a 9;thing b 9;thing c 9;thing d 9;sold b 9 owed 9;lost c insured 0;changed d 1;");
        Checks.row("state of", thing -> house.thing(thing, 1), 0, 1, 2, 0);
        house.sell(0, 9, 0);
        house.lose(3, 9);
        Checks.row("state of", thing -> house.thing(thing, 1), 1, 1, 2, 2);
    }

    @Sentence(of = "Terms 2", says = "BRINGS: its WORTH, if it is HELD;")
    static void heldBringsItsWorth() {
        WillHouse house = Checks.house("thing a 1;thing b 9999;thing c 9;changed c 8;");
        Checks.row("brings", thing -> house.thing(thing, 4), 1, 9999, 8);
        house.change(1, 1);
        Checks.same("brings", house.thing(1, 4), 1);
    }

    @Sentence(of = "Terms 2", says = "what is OWED, if SOLD;")
    static void soldBringsWhatIsOwed() {
        WillHouse house = Checks.house("thing a 9;thing b 9;thing c 9;sold a 7 owed 0;sold b 7 owed 7;sold c 9999 owed 9999;");
        Checks.row("brings", thing -> house.thing(thing, 4), 0, 7, 9999);
    }

    @Sentence(of = "Terms 2", says = "what it is INSURED for, if LOST.")
    static void lostBringsWhatItIsInsuredFor() {
        WillHouse house = Checks.house("thing a 9;thing b 9;thing c 9;lost a insured 0;lost b insured 7;lost c insured 9999;");
        Checks.row("brings", thing -> house.thing(thing, 4), 0, 7, 9999);
    }

    @Sentence(of = "Terms 2", says = "ESTATE: cash and what all THINGS BRING.")
    static void estate() {
        Checks.same("nothing", new WillHouse().estate(0), 0);
        Checks.same("cash alone", Checks.house("cash 99999;").estate(0), 99999);
        Checks.same("above what cash may be", Checks.house("cash 99999;", Checks.each("thing # 9999;", 8)).estate(0), 179991);
        WillHouse house = Checks.house("thing a 9;thing b 9;thing c 9;sold b 7 owed 2;lost c insured 4;debt 99999;");
        Checks.same("9 and 2 and 4 and cash 5", house.estate(0), 20);
    }

    @Sentence(of = "Terms 2", says = "AVAILABLE: ESTATE less debt, 0 at least.")
    static void available() {
        WillHouse house = Checks.house("cash 5;thing a 9;");
        int[] debts = {0, 13, 14, 15, 99999};
        int[] due = {14, 1, 0, 0, 0};
        for (int i = 0; i < debts.length; i++) {
            house.set(1, debts[i]);
            Checks.same("available by debt " + debts[i], house.estate(1), due[i]);
        }
    }

    @Sentence(of = "Terms 2", says = "UNPAID: what debt is above ESTATE, else 0.")
    static void unpaid() {
        WillHouse house = Checks.house("cash 5;thing a 9;");
        int[] debts = {0, 13, 14, 15, 99999};
        int[] due = {0, 0, 0, 1, 99985};
        for (int i = 0; i < debts.length; i++) {
            house.set(1, debts[i]);
            Checks.same("unpaid by debt " + debts[i], house.estate(2), due[i]);
        }
    }

    @Sentence(of = "Terms 2", says = "KIN are children, and issue of KIN.")
    static void kin() {
        WillHouse house = Checks.house("child a;friend b;issue c of a;issue d of b;issue e of c;issue f of d;");
        Checks.row("kin", person -> house.person(person, 2), 1, 0, 1, 0, 1, 0);
        StringBuilder chain = new StringBuilder("child a;");
        for (char name = 'b'; name <= 'l'; name++) {
            chain.append("issue ").append(name).append(" of ").append((char) (name - 1)).append(';');
        }
        Checks.same("of the longest chain", Checks.house(chain.toString()).person(11, 2), 1);
        Checks.same("of a friend's longest chain", Checks.house(chain.toString().replace("child", "friend")).person(11, 2), 0);
    }

    @Sentence(of = "Terms 2", says = "STOCK of a PERSON: it, if it lives; else all STOCKS of its issue.")
    static void stock() {
        WillHouse house = Checks.house("child a;issue b of a;issue c of a;issue d of b;issue e of b;");
        Checks.same("it alone, though there is issue", house.person(0, 5), 1);
        house.die(0);
        Checks.same("b and c, not d and e", house.person(0, 5), 2);
        house.die(1);
        Checks.same("c, d, e", house.person(0, 5), 3);
        house.die(3);
        Checks.same("c, e", house.person(0, 5), 2);
    }

    @Sentence(of = "Terms 2", says = "It is EMPTY, if nobody in it lives.")
    static void emptyStock() {
        WillHouse house = Checks.house("child a;issue b of a;issue c of b;friend d;");
        Checks.row("empty", person -> house.person(person, 4), 0, 0, 0, 0);
        house.die(0);
        house.die(1);
        Checks.row("empty", person -> house.person(person, 4), 0, 0, 0, 0);
        house.die(2);
        house.die(3);
        Checks.row("empty", person -> house.person(person, 4), 1, 1, 1, 1);
    }

    @Sentence(of = "Terms 2", says = "PASSED to a STOCK: to the PERSON that lives;")
    static void passedToWhoLives() {
        WillHouse house = Checks.house("cash 9;child a;issue b of a;issue c of b;sum 9 to a;");
        Checks.row("takes", person -> house.takes(0, person), 9, 0, 0);
        house.die(2);
        house.die(1);
        Checks.row("takes", person -> house.takes(0, person), 9, 0, 0);
    }

    @Sentence(of = "Terms 2", says = "else in equal parts to those PERSONS whose PARENT it is and whose STOCK is not EMPTY, by numbers:")
    static void passedInEqualParts() {
        // b lives, c is dead without issue, of d e lives, f and g are dead
        WillHouse house = Checks.house("cash 12;child a;issue b of a;issue c of a;issue d of a;issue e of d;issue f of a;",
                "issue g of f;child h;sum 12 to a;dead a;dead c;dead d;dead f;dead g;");
        Checks.row("takes", person -> house.takes(0, person), 0, 6, 0, 0, 6, 0, 0, 0);
        house.die(4);
        Checks.row("takes", person -> house.takes(0, person), 0, 12, 0, 0, 0, 0, 0, 0);
    }

    @Sentence(of = "Terms 2", says = "what is left over by 1 to the first ones;")
    static void leftOverToTheFirst() {
        WillHouse house = Checks.house("child a;issue b of a;issue c of a;issue d of a;issue e of a;sum 9999 to a;dead a;");
        int[][] due = {{0, 0, 0, 0}, {1, 0, 0, 0}, {1, 1, 1, 0}, {1, 1, 1, 1}, {2, 1, 1, 1}, {2, 2, 2, 1}};
        int[] cash = {0, 1, 3, 4, 5, 7};
        for (int i = 0; i < cash.length; i++) {
            house.set(0, cash[i]);
            Checks.row("of " + cash[i] + " takes", issue -> house.takes(0, issue + 1), due[i]);
        }
        house.set(0, 5);
        house.die(1);
        // the first of those that have a part, by numbers
        Checks.row("takes", person -> house.takes(0, person), 0, 0, 2, 2, 1);
    }

    @Sentence(of = "Terms 2", says = "each part PASSED on so.")
    static void partsPassedOn() {
        // 11: 6 to b, of which d takes 3, e 3; 5 to c, of which f, dead, has 3: g 2, h 1; i takes 2
        WillHouse house = Checks.house("cash 11;child a;issue b of a;issue c of a;issue d of b;issue e of b;issue f of c;",
                "issue g of f;issue h of f;issue i of c;sum 11 to a;dead a;dead b;dead c;dead f;");
        Checks.row("takes", person -> house.takes(0, person), 0, 0, 0, 3, 3, 0, 2, 1, 2);
        StringBuilder chain = new StringBuilder("cash 9;child a;");
        for (char name = 'b'; name <= 'l'; name++) {
            chain.append("issue ").append(name).append(" of ").append((char) (name - 1)).append(';');
        }
        WillHouse last = Checks.house(chain.toString(), "sum 9 to a;");
        for (int person = 0; person < 11; person++) {
            last.die(person);
        }
        Checks.same("the last of the longest chain", last.takes(0, 11), 9);
    }

    @Sentence(of = "Terms 2", says = "A GIFT LAPSES, if it is RENOUNCED,")
    static void lapsesRenounced() {
        WillHouse house = Checks.house("child a;sum 9 to a;sum 9 to a;");
        Checks.row("lapses", gift -> house.gift(gift, 5), 0, 0);
        house.renounce(1, true);
        Checks.row("lapses", gift -> house.gift(gift, 5), 0, 1);
        house.renounce(1, false);
        Checks.row("lapses", gift -> house.gift(gift, 5), 0, 0);
    }

    @Sentence(of = "Terms 2", says = "if its PERSON is dead and is not KIN,")
    static void lapsesOfTheDeadThatAreNotKin() {
        WillHouse house = Checks.house("friend a;issue b of a;child c;issue d of c;issue e of b;sum 9 to a;sum 9 to b;sum 9 to c;");
        Checks.row("lapses", gift -> house.gift(gift, 5), 0, 0, 0);
        house.die(0);
        Checks.row("lapses, though b lives", gift -> house.gift(gift, 5), 1, 0, 0);
        house.die(1);
        Checks.row("lapses, though e lives", gift -> house.gift(gift, 5), 1, 1, 0);
        house.die(2);
        Checks.row("c is kin", gift -> house.gift(gift, 5), 1, 1, 0);
    }

    @Sentence(of = "Terms 2", says = "or if its STOCK is EMPTY.")
    static void lapsesOfAnEmptyStock() {
        WillHouse house = Checks.house("child a;issue b of a;issue c of b;child d;sum 9 to a;sum 9 to d;sum 9 to b;");
        house.die(0);
        house.die(1);
        Checks.row("lapses", gift -> house.gift(gift, 5), 0, 0, 0);
        house.die(2);
        Checks.row("lapses", gift -> house.gift(gift, 5), 1, 0, 1);
        house.die(3);
        Checks.row("lapses", gift -> house.gift(gift, 5), 1, 1, 1);
    }

    @Sentence(of = "Terms 2", says = "HEIRS: children whose STOCK is not EMPTY.")
    static void heirs() {
        WillHouse house = Checks.house("friend a;child b;child c;issue d of b;");
        Checks.same("heirs", house.count(11), 2);
        house.die(1);
        Checks.same("the stock of b lives", house.count(11), 2);
        house.die(2);
        Checks.same("b alone", house.count(11), 1);
        Checks.same("it is b, who is dead", house.heir(0), 1);
        house.die(3);
        Checks.same("none, though a lives", house.count(11), 0);
        Checks.same("without persons", new WillHouse().count(11), 0);
        Checks.same("as many as there may be", Checks.house(Checks.each("child #;", 12)).count(11), 12);
    }

    @Sentence(of = "Terms 2", says = "ADEEMED is a SPECIFIC GIFT, if its THING is not HELD:")
    static void adeemed() {
        WillHouse house = Checks.house("thing a 9;thing b 9;child c;give a to c;from b 9 to c;sum 9 to c;rest 1 to c;");
        Checks.row("adeemed", gift -> house.gift(gift, 6), 0, 0, 0, 0);
        house.change(0, 1);
        Checks.row("adeemed", gift -> house.gift(gift, 6), 0, 0, 0, 0);
        house.sell(0, 9, 9);
        house.lose(1, 0);
        Checks.row("adeemed", gift -> house.gift(gift, 6), 1, 0, 0, 0);
    }

    @Sentence(of = "Terms 2", says = "wholly, if it BRINGS 0, else in part.")
    static void adeemedWhollyOrInPart() {
        WillHouse house = Checks.house(Checks.each("thing # 9;", 6), "child p;", Checks.each("give # to p;", 6),
                "sold a 9 owed 0;sold b 9 owed 1;sold c 9 owed 9;lost d insured 0;lost e insured 1;lost f insured 9999;");
        Checks.row("adeemed", gift -> house.gift(gift, 6), 2, 1, 1, 2, 1, 1);
    }
}
