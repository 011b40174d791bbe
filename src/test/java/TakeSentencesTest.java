/** Promises 26 to 30: takes, taken, stock, heir, ranked, a test for each sentence. */
final class TakeSentencesTest {
    public static void main(String[] names) throws IllegalAccessException {
        Sentences.run(TakeSentencesTest.class, names);
    }

    /** a, a child, dead, of whom c and d live; b, a child; e, a friend. */
    private static WillHouse house() {
        return Checks.house("thing t 5;cash 100;child a;child b;issue c of a;issue d of a;friend e;give t to a;sum 11 to a;",
                "sum 7 to c;sum 9 to e;dead a;");
    }

    @Sentence(of = "Promise 26", says = "What a PERSON TAKES of a GIFT.")
    static void takes() {
        WillHouse house = house();
        Checks.row("of 0 takes", person -> house.takes(0, person), 0, 0, 3, 2, 0);
        Checks.row("of 1 takes", person -> house.takes(1, person), 0, 0, 6, 5, 0);
        Checks.row("of 2 takes", person -> house.takes(2, person), 0, 0, 7, 0, 0);
        Checks.row("of 3 takes", person -> house.takes(3, person), 0, 0, 0, 0, 9);
        house.set(1, 98);
        // 5 in 0, 2 of 27 in 4: 1 for the sum of 11, 1 for that of 9
        Checks.row("of 1 takes", person -> house.takes(1, person), 0, 0, 1, 0, 0);
        Checks.row("of 2 takes", person -> house.takes(2, person), 0, 0, 0, 0, 0);
        house.set(1, 99999);
        Checks.row("nothing there", person -> house.takes(0, person), 0, 0, 0, 0, 0);
        house.set(1, 0);
        house.renounce(0, true);
        Checks.row("lapsed", person -> house.takes(0, person), 0, 0, 0, 0, 0);
    }

    @Sentence(of = "Promise 26", says = "IndexOutOfBoundsException: GIFT, PERSON.")
    static void takesOfNone() {
        WillHouse house = house();
        Checks.noIndexOutside("of gift", 3, gift -> house.takes(gift, 0));
        Checks.noIndexOutside("by person", 4, person -> house.takes(0, person));
        Checks.noIndex("of none by nobody", () -> house.takes(4, 5));
        Checks.same("the last of both", house.takes(3, 4), 9);
        Checks.noIndex("of an empty house", () -> new WillHouse().takes(0, 0));
    }

    @Sentence(of = "Promise 27", says = "What a PERSON TAKES what 0 in all,")
    static void takenInAll() {
        WillHouse house = house();
        // intestate 73: 37 to the stock of a, 36 to b
        Checks.row("in all", person -> house.taken(person, 0), 0, 36, 35, 25, 9);
        house.set(1, 99999);
        Checks.row("nothing there", person -> house.taken(person, 0), 0, 0, 0, 0, 0);
        WillHouse great = Checks.house("cash 99999;", Checks.each("thing # 9999;", 8), "child p;", Checks.each("give # to p;", 8));
        Checks.same("the most", great.taken(0, 0), 179991);
    }

    @Sentence(of = "Promise 27", says = "1 of INTESTATE,")
    static void takenOfIntestate() {
        WillHouse house = house();
        Checks.row("of intestate", person -> house.taken(person, 1), 0, 36, 19, 18, 0);
        house.set(1, 73);
        Checks.row("nothing is left", person -> house.taken(person, 1), 0, 0, 0, 0, 0);
        Checks.same("shares are not it", Checks.house("cash 7;child a;rest 1 to a;").taken(0, 1), 0);
    }

    @Sentence(of = "Promise 27", says = "2 of GIFTS that are not its own.")
    static void takenOfOthers() {
        WillHouse house = house();
        Checks.row("of others", person -> house.taken(person, 2), 0, 0, 9, 7, 0);
        WillHouse alive = Checks.house("cash 9;child a;issue b of a;sum 9 to a;");
        Checks.row("while a lives", person -> alive.taken(person, 2), 0, 0);
        alive.die(0);
        Checks.row("when a is dead", person -> alive.taken(person, 2), 0, 9);
        WillHouse twelve = Checks.house("cash 99;child a;issue b of a;", "sum 2 to a;".repeat(12), "dead a;");
        Checks.same("of twelve", twelve.taken(1, 2), 24);
    }

    @Sentence(of = "Promise 27", says = "NoSuchElementException: another what.")
    static void takenNothingElse() {
        WillHouse house = house();
        for (int person = 0; person < 5; person++) {
            int of = person;
            Checks.noElementOutside("taken by " + person + " what", 2, what -> house.taken(of, what));
        }
    }

    @Sentence(of = "Promise 28", says = "The k-th PERSON that lives in the STOCK of one, by numbers;")
    static void stockByNumbers() {
        WillHouse house = Checks.house("child a;issue b of a;issue c of a;issue d of b;issue e of c;issue f of b;issue g of a;");
        Checks.row("a lives", k -> house.stock(0, k), 0, -1);
        house.die(0);
        Checks.row("a is dead", k -> house.stock(0, k), 1, 2, 6, -1);
        house.die(1);
        // those of b come among the others, not in its place
        Checks.row("b is dead", k -> house.stock(0, k), 2, 3, 5, 6, -1);
        house.die(2);
        Checks.row("c is dead", k -> house.stock(0, k), 3, 4, 5, 6, -1);
        Checks.row("of b", k -> house.stock(1, k), 3, 5, -1);
        house.die(3);
        Checks.row("d is dead", k -> house.stock(0, k), 4, 5, 6, -1);
        Checks.row("of the last", k -> house.stock(6, k), 6, -1);
    }

    @Sentence(of = "Promise 28", says = "NONE behind.")
    static void stockBehind() {
        WillHouse house = house();
        Checks.noneOutside("of one that lives", 0, k -> house.stock(1, k));
        Checks.noneOutside("of a, who is dead", 1, k -> house.stock(0, k));
        house.die(4);
        Checks.noneOutside("of an empty one", -1, k -> house.stock(4, k));
    }

    @Sentence(of = "Promise 29", says = "The k-th HEIR by numbers;")
    static void heirsByNumbers() {
        WillHouse house = Checks.house("friend a;child b;issue c of b;child d;issue e of d;child f;");
        Checks.row("heir", house::heir, 1, 3, 5, -1);
        house.die(1);
        Checks.row("b has issue: heir", house::heir, 1, 3, 5, -1);
        house.die(2);
        Checks.row("b has none: heir", house::heir, 3, 5, -1);
        house.die(5);
        Checks.row("f is dead: heir", house::heir, 3, -1);
        WillHouse twelve = Checks.house(Checks.each("child #;", 12));
        Checks.row("heir", twelve::heir, 0, 1, 2, 3, 4, 5, 6, 7, 8, 9, 10, 11, -1);
    }

    @Sentence(of = "Promise 29", says = "NONE behind.")
    static void noHeirBehind() {
        Checks.noneOutside("of two", 1, house()::heir);
        Checks.noneOutside("of none", -1, Checks.house("friend a;child b;dead b;")::heir);
        Checks.noneOutside("of an empty house", -1, new WillHouse()::heir);
    }

    @Sentence(of = "Promise 30", says = "The k-th PERSON by what it TAKES in all, the most first (of several the first);")
    static void rankedByTheMost() {
        WillHouse house = house();
        // a 0, b 36, c 35, d 25, e 9
        Checks.row("ranked", house::ranked, 1, 2, 3, 4, 0, -1);
        house.set(1, 99999);
        Checks.row("nobody takes anything: ranked", house::ranked, 0, 1, 2, 3, 4, -1);
        WillHouse alike = Checks.house("cash 45;friend a;friend b;friend c;friend d;sum 5 to a;sum 20 to b;sum 5 to c;sum 15 to d;");
        Checks.row("5, 20, 5, 15: ranked", alike::ranked, 1, 3, 0, 2, -1);
        WillHouse twelve = Checks.house("cash 78;", Checks.each("friend #;", 12), "sum 12 to l;sum 11 to k;sum 10 to a;");
        Checks.row("ranked", twelve::ranked, 11, 10, 0, 1, 2, 3, 4, 5, 6, 7, 8, 9, -1);
    }

    @Sentence(of = "Promise 30", says = "NONE behind.")
    static void nobodyRankedBehind() {
        Checks.noneOutside("of five", 4, house()::ranked);
        Checks.noneOutside("of twelve", 11, Checks.house(Checks.each("child #;", 12))::ranked);
        Checks.noneOutside("of an empty house", -1, new WillHouse()::ranked);
    }
}
