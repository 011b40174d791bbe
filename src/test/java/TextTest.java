/** Promises 1 to 6: a new object, the TAPE, THE TEXT, THE FAULT, names. */
final class TextTest {
    private static final String LETTERS = "abcdefghijklmnop";

    public static void main(String[] args) {
        newObject();
        feedFills();
        feedOrder();
        endCuts();
        readAnswers();
        readReplaces();
        whatWasGivenIsFree();
        bytesBehindTheEnd();
        wrongReadChangesNothing();
        latestNumbersCount();
        faultsOfWords();
        faultsOfNumbers();
        faultsOfNames();
        faultsOfThingsAsTheyAre();
        faultsOfTooMany();
        faultsOfEnds();
        rightTexts();
        names();
        Checks.close("TextTest");
    }

    private static void newObject() {
        WillHouse house = new WillHouse();
        Checks.same("NONE", WillHouse.NONE, -1);
        for (int what = 0; what <= 14; what++) {
            Checks.same("count " + what, house.count(what), what == 6 ? 5 : 0);
        }
        for (int what = 0; what <= 6; what++) {
            Checks.same("estate " + what, house.estate(what), 0);
        }
        Checks.same("cut", house.estate(7), -1);
        Checks.same("fault", house.fault(), -1);
        Checks.same("octet", house.octet(0), -1);
        Checks.same("undo", house.undo(), -1);
        Checks.same("heir", house.heir(0), -1);
        Checks.same("ranked", house.ranked(0), -1);
        Checks.noIndex("person", () -> house.person(0, 0));
        Checks.noIndex("thing", () -> house.thing(0, 0));
        Checks.noIndex("gift", () -> house.gift(0, 0));
    }

    private static void feedFills() {
        WillHouse house = new WillHouse();
        for (int times = 1; times <= 20; times++) {
            Checks.same("feed", house.feed(0, 0, 0, 0, 0), 20 * times);
        }
        Checks.same("feed above 400", house.feed(1, 2, 3, 4, 5), -1);
        Checks.no("end 401", house.end(401));
        Checks.yes("end 381", house.end(381));
        Checks.same("feed to 401", house.feed(0, 0, 0, 0, 0), -1);
        Checks.no("none came", house.end(382));
        Checks.yes("end 380", house.end(380));
        Checks.same("feed to 400", house.feed(0, 0, 0, 0, 0), 400);
    }

    private static void feedOrder() {
        WillHouse house = new WillHouse();
        // "chil" "d ab" "cd;d" "ead " "abcd", the highest byte of each number first
        Checks.same("feed", house.feed(0x6368696c, 0x64206162, 0x63643b64, 0x65616420, 0x61626364), 20);
        Checks.same("feed", house.feed(0x3b000000, 0, 0, 0, 0), 40);
        Checks.yes("end", house.end(21));
        Checks.same("read", house.read(), 0);
        for (int k = 0; k < 4; k++) {
            Checks.same("letter", house.name(true, 0, k), 'a' + k);
        }
        Checks.same("dead", house.person(0, 3), 1);
        // a byte of all ones is no letter and no blank
        house.feed(0x636173e8, -1, 0, 0, 0);
        Checks.noArgument("read", house::read);
        Checks.same("fault", house.fault(), 0);
        house.feed(0x63617368, -1, 0, 0, 0);
        Checks.noArgument("read", house::read);
        Checks.same("fault", house.fault(), 4);
    }

    private static void endCuts() {
        WillHouse house = new WillHouse();
        Checks.yes("end 0 of 0", house.end(0));
        Checks.no("end 1 of 0", house.end(1));
        house.feed(0, 0, 0, 0, 0);
        Checks.no("end below 0", house.end(-1));
        Checks.no("end of least", house.end(Integer.MIN_VALUE));
        Checks.no("end behind", house.end(21));
        Checks.no("end of most", house.end(Integer.MAX_VALUE));
        Checks.yes("nothing happened", house.end(20));
        Checks.yes("end 3", house.end(3));
        Checks.no("end 4", house.end(4));
        Checks.same("feed behind", house.feed(0, 0, 0, 0, 0), 23);
    }

    private static void readAnswers() {
        WillHouse house = new WillHouse();
        Checks.same("read of nothing", house.read(), 0);
        Checks.feed(house, "thing a 5;child b;give a to b;sum 3 to b;rest 1 to b;");
        Checks.same("read", house.read(), 3);
        Checks.no("the tape is used up", house.end(1));
        Checks.same("read of nothing", house.read(), 0);
        Checks.same("nobody", house.count(1), 0);
    }

    private static void readReplaces() {
        WillHouse house = Checks.house("thing a 5;thing c 6;cash 7;debt 8;months 9;rate 10;rule worth;",
                "child b;child d;give a to b;from c 1 to b;sold a 3 owed 1;dead d;");
        house.renounce(0, true);
        house.renounce(1, true);
        house.set(0, 3);
        int bytes = house.write(0);
        Checks.same("acts", house.count(12), 3);
        Checks.feed(house, "thing e 1;friend d;issue f of d;give e to d;");
        Checks.same("read", house.read(), 1);
        Checks.same("acts", house.count(12), 0);
        Checks.same("undo", house.undo(), -1);
        int[] due = {1, 2, 1, 0, 0, 0, 5, 0, 2, 1, 0, 0, 0, bytes, 0};
        for (int what = 0; what < due.length; what++) {
            Checks.same("count " + what, house.count(what), due[what]);
        }
        Checks.same("written", Checks.octets(house), "b 2 i:2");
        Checks.same("held", house.thing(0, 1), 0);
        Checks.same("worth", house.thing(0, 0), 1);
        Checks.same("not kin", house.person(1, 2), 0);
        Checks.same("a friend", house.person(0, 1), 0);
        Checks.same("not renounced", house.gift(0, 5), 0);
    }

    private static void whatWasGivenIsFree() {
        String give = "thing e 1;friend d;give e to d;";
        String from = "thing e 1;friend d;from e 1 to d;";
        WillHouse house = new WillHouse();
        for (String text : new String[] {give, give, from, from, give, give}) {
            Checks.feed(house, text);
            Checks.same("read of " + text, house.read(), 1);
        }
        for (String text : new String[] {give, from, give, from}) {
            Checks.feed(house, text + "x");
            Checks.noArgument("read of a wrong text", house::read);
            Checks.same("fault", house.fault(), text.length());
            Checks.feed(house, text);
            Checks.same("read of " + text, house.read(), 1);
        }
    }

    /** Bytes behind the TAPE's end are no part of THE TEXT. */
    private static void bytesBehindTheEnd() {
        String[] texts = {"child a|;", "child a|b;", "cash 5|;", "cash 5|6;", "cash |5;", "rest|;", "child a;sum 5 to a|;",
            "child a;sum 5 to a| rank 2;", "child a;sum 5 to a |rank 2;", "child a;| x"};
        for (String text : texts) {
            WillHouse house = new WillHouse();
            Checks.feed(house, text.replace("|", ""));
            int end = text.indexOf('|');
            Checks.yes("end", house.end(end));
            if (text.endsWith("x")) {
                Checks.same("read of " + text, house.read(), 0);
                continue;
            }
            Checks.noArgument("read of " + text, house::read);
            Checks.same("fault of " + text, house.fault(), end);
        }
        // the longest text, and the longest that ends too early
        String most = "sum 1 to a;".repeat(11);
        Checks.right("child a;" + most + " ".repeat(271));
        Checks.wrongAt("child a;" + most + " ".repeat(266) + "child^");
        Checks.wrongAt("child a;" + most + " ".repeat(264) + "child b^");
        Checks.wrongAt("child a;" + most + " ".repeat(265) + "cash 5^");
        Checks.wrongAt("child a;" + most + " ".repeat(261) + "sum 1 to a^");
        Checks.wrongAt("child a;" + most + " ".repeat(261) + "sum 1 to  ^");
    }

    private static void wrongReadChangesNothing() {
        WillHouse house = Checks.house("thing a 5;cash 7;child b;give a to b;");
        house.set(1, 2);
        house.write(0);
        Checks.feed(house, "thing c 6;cash 9;child d;dead d;debt 9;sum 5 to d;foo;");
        Checks.noArgument("read", house::read);
        Checks.same("fault", house.fault(), 50);
        Checks.no("the tape is used up", house.end(1));
        Checks.same("name", house.name(true, 0, 0), 'b');
        Checks.same("thing", house.name(false, 0, 0), 'a');
        Checks.same("gifts", house.count(2), 1);
        Checks.same("cash", house.count(3), 7);
        Checks.same("debt", house.count(4), 2);
        Checks.same("living", house.count(8), 1);
        Checks.same("written", Checks.octets(house), "b 10 0:5 i:5");
        Checks.same("undo", house.undo(), 0);
        Checks.same("debt", house.count(4), 0);
        Checks.same("fault stays", house.fault(), 50);
        Checks.feed(house, "child d;");
        house.read();
        Checks.same("no fault", house.fault(), -1);
    }

    private static void latestNumbersCount() {
        WillHouse house = Checks.house("cash 5;thing a 9;sold a 8 owed 3;debt 1;months 2;rate 3;",
                "debt 4;months 5;rate 6;thing b 7;changed b 2;changed b 3;rule worth;rule worth;");
        int[] due = {2, 0, 0, 10, 4, 5, 6, 1};
        for (int what = 0; what < due.length; what++) {
            Checks.same("count " + what, house.count(what), due[what]);
        }
        Checks.same("worth of what was sold stays", house.thing(0, 0), 9);
        Checks.same("worth", house.thing(1, 0), 3);
        Checks.same("later cash", Checks.house("cash 5;thing a 9;sold a 8 owed 3;cash 4;").count(3), 4);
        Checks.same("bounds", Checks.house("cash 99999;debt 99999;months 240;rate 99;").count(6), 99);
    }

    private static void faultsOfWords() {
        Checks.wrongAt("^foo;");
        Checks.wrongAt("^to a;");
        Checks.wrongAt("^things a 5;");
        Checks.wrongAt("^thinga 5;");
        Checks.wrongAt("^Thing a 5;");
        Checks.wrongAt("^5;");
        Checks.wrongAt("^;");
        Checks.wrongAt("child a;^;");
        Checks.wrongAt("child a ^b;");
        Checks.wrongAt("child a^5;");
        Checks.wrongAt("child a^,child b;");
        Checks.wrongAt("child a\t^\b;");
        Checks.wrongAt("child a;issue b ^to a;");
        Checks.wrongAt("child a;sum 5 ^of a;");
        Checks.wrongAt("child a;sum 5 ^toa;");
        Checks.wrongAt("child a;sum 5 to a ^ran 1;");
        Checks.wrongAt("child a;sum 5 to a ^owed 1;");
        Checks.wrongAt("child a;rest 5 to a ^rank 1;");
        Checks.wrongAt("thing a 5;child a;give a to a ^rank 1;");
        Checks.wrongAt("thing a 5;give a ^a;");
        Checks.wrongAt("thing a 5;sold a 5 ^insured 1;");
        Checks.wrongAt("thing a 5;sold a 5^;");
        Checks.wrongAt("thing a 5;lost a ^owed 1;");
        Checks.wrongAt("rule ^worthy;");
        Checks.wrongAt("rule ^5;");
        Checks.wrongAt("rule ^;");
        Checks.wrongAt("rule worth^5;");
        Checks.wrongAt("^\u000bchild a;");
        Checks.wrongAt("^\rchild a;");
        Checks.wrongAt("child a;^\u0000");
        Checks.wrongAt("^{");
        Checks.wrongAt("^`");
    }

    private static void faultsOfNumbers() {
        Checks.wrongAt("thing a ^0;");
        Checks.wrongAt("thing a ^10000;");
        Checks.wrongAt("thing a ^000005;");
        Checks.wrongAt("thing a ^x;");
        Checks.wrongAt("thing a ^;");
        Checks.wrongAt("thing a ^-5;");
        Checks.wrongAt("thing a 5 ^5;");
        Checks.wrongAt("cash ^100000;");
        Checks.wrongAt("cash ^4294967296;");
        Checks.wrongAt("cash ^" + "9".repeat(390) + ";");
        Checks.wrongAt("debt ^100000;");
        Checks.wrongAt("months ^241;");
        Checks.wrongAt("rate ^100;");
        Checks.wrongAt("child a;sum ^0 to a;");
        Checks.wrongAt("child a;sum ^10000 to a;");
        Checks.wrongAt("child a;sum 5 to a rank ^0;");
        Checks.wrongAt("child a;sum 5 to a rank ^5;");
        Checks.wrongAt("child a;rest ^0 to a;");
        Checks.wrongAt("child a;rest ^10 to a;");
        Checks.wrongAt("thing t 1;child a;from t ^0 to a;");
        Checks.wrongAt("thing t 1;child a;from t ^10000 to a;");
        Checks.wrongAt("thing t 1;child a;from t 9 to a rank ^5;");
        Checks.wrongAt("thing a 5;sold a ^0 owed 0;");
        Checks.wrongAt("thing a 5;sold a ^10000 owed 0;");
        Checks.wrongAt("thing a 5;sold a 6 owed ^7;");
        Checks.wrongAt("cash 99999;thing a 5;sold a 5 owed ^4;");
        Checks.wrongAt("cash 90001;thing a 5;sold a 9999 owed ^0;");
        Checks.wrongAt("thing a 5;changed a ^0;");
        Checks.wrongAt("thing a 5;changed a ^10000;");
        Checks.wrongAt("thing a 5;lost a insured ^10000;");
        Checks.wrongAt("cash 1^:");
        Checks.wrongAt("cash ^;");
        Checks.wrongAt("cash^;");
        Checks.wrongAt("thing a 5;lost a insured ^;");
        Checks.wrongAt("cash ^/");
    }

    private static void faultsOfNames() {
        Checks.wrongAt("child ^abcdefg;");
        Checks.wrongAt("child ^5;");
        Checks.wrongAt("child ^A;");
        Checks.wrongAt("child ^;");
        for (String word : ("thing cash debt child friend issue of give to sum rank from rest sold owed changed"
                + " lost insured dead months rate rule worth").split(" ")) {
            Checks.wrongAt("child ^" + word + ";");
            Checks.wrongAt("thing ^" + word + " 5;");
        }
        Checks.wrongAt("child a;child ^a;");
        Checks.wrongAt("child a;friend ^a;");
        Checks.wrongAt("child a;issue ^a of a;");
        Checks.wrongAt("thing a 1;thing ^a 2;");
        Checks.wrongAt("thing ^abcdefg 2;");
        Checks.wrongAt("child a;issue b of ^c;");
        Checks.wrongAt("child a;issue b of ^b;");
        Checks.wrongAt("thing c 1;child a;issue b of ^c;");
        Checks.wrongAt("give ^a to b;");
        Checks.wrongAt("child b;give ^b to b;");
        Checks.wrongAt("thing a 5;give a to ^b;child b;");
        Checks.wrongAt("child ab;sum 5 to ^a;");
        Checks.wrongAt("child ab;sum 5 to ^abc;");
        Checks.wrongAt("child ab;sum 5 to ^ac;");
        Checks.wrongAt("sum 5 to ^a;");
        Checks.wrongAt("rest 5 to ^a;");
        Checks.wrongAt("from ^a 5 to a;");
        Checks.wrongAt("thing a 5;from a 5 to ^a;");
        Checks.wrongAt("sold ^a 5 owed 5;");
        Checks.wrongAt("changed ^a 5;");
        Checks.wrongAt("lost ^a insured 5;");
        Checks.wrongAt("thing a 5;dead ^a;");
        Checks.wrongAt("child a;dead ^" + "abcdefgh".repeat(40) + ";");
    }

    private static void faultsOfThingsAsTheyAre() {
        Checks.wrongAt("thing a 5;child b;child c;give a to b;give ^a to c;");
        Checks.wrongAt("thing a 5;child b;give a to b;from ^a 3 to b;");
        Checks.wrongAt("thing a 5;child b;from a 3 to b;give ^a to b;");
        Checks.wrongAt("thing a 5;sold a 5 owed 5;sold ^a 5 owed 5;");
        Checks.wrongAt("thing a 5;sold a 5 owed 5;changed ^a 5;");
        Checks.wrongAt("thing a 5;sold a 5 owed 5;lost ^a insured 5;");
        Checks.wrongAt("thing a 5;lost a insured 5;sold ^a 5 owed 5;");
        Checks.wrongAt("thing a 5;lost a insured 5;changed ^a 5;");
        Checks.wrongAt("thing a 5;lost a insured 5;lost ^a insured 5;");
        Checks.wrongAt("child a;dead a;dead ^a;");
    }

    private static String each(String line, int times) {
        StringBuilder lines = new StringBuilder();
        for (int i = 0; i < times; i++) {
            lines.append(line.replace('#', LETTERS.charAt(i)));
        }
        return lines.toString();
    }

    private static void faultsOfTooMany() {
        Checks.right(each("thing # 1;", 8));
        Checks.wrongAt(each("thing # 1;", 8) + "^thing i 1;");
        Checks.wrongAt(each("thing # 1;", 8) + "^thing");
        Checks.right(each("child #;", 12));
        Checks.wrongAt(each("child #;", 12) + "^child m;");
        Checks.wrongAt(each("child #;", 12) + "^friend m;");
        Checks.wrongAt(each("friend #;", 12) + "^issue m of a;");
        Checks.right("child a;" + "sum 1 to a;".repeat(12));
        Checks.wrongAt("child a;" + "sum 1 to a;".repeat(12) + "^sum 1 to a;");
        Checks.wrongAt("child a;" + "rest 1 to a;".repeat(12) + "^rest 1 to a;");
        Checks.wrongAt("thing b 1;child a;" + "from b 1 to a;".repeat(12) + "^from b 1 to a;");
        Checks.wrongAt("thing b 1;child a;" + "rest 1 to a;".repeat(12) + "^give b to a;");
    }

    private static void faultsOfEnds() {
        Checks.wrongAt("child^");
        Checks.wrongAt("child ^");
        Checks.wrongAt("child a^");
        Checks.wrongAt("child a \n\t^");
        Checks.wrongAt("cash 5^");
        Checks.wrongAt("cash^");
        Checks.wrongAt("child a;sum 5^");
        Checks.wrongAt("child a;sum 5 to^");
        Checks.wrongAt("child a;sum 5 to a^");
        Checks.wrongAt("child a;sum 5 to a rank^");
        Checks.wrongAt("child a;sum 5 to a rank 1^");
        Checks.wrongAt("thing a 5;sold a 5 owed^");
        // words are as many letters as stand there: one that is none is wrong at its first byte
        Checks.wrongAt("^chil");
        Checks.wrongAt("thing a ^0");
    }

    private static void rightTexts() {
        Checks.right("");
        Checks.right(" \t\n");
        Checks.right("  child\n a\t;  ");
        Checks.right("thing a5;child b;sum5to b rank4;cash6;give a\nto b;rest9to b;");
        Checks.right("thing a 00005;cash 00000;");
        Checks.right("thing abcdef 9999;child abcdef;give abcdef to abcdef;");
        Checks.right("thing a 1;child b;from a 9999 to b;from a 1 to b rank 1;");
        Checks.right("thing a 5;sold a 9999 owed 9999;");
        Checks.right("thing a 5;changed a 9999;changed a 1;lost a insured 0;");
        Checks.right("thing a 5;lost a insured 9999;child b;give a to b;");
        Checks.right("cash 99999;thing a 5;sold a 5 owed 5;");
        Checks.right("cash 90000;thing a 5;sold a 9999 owed 0;");
        Checks.right("child a;dead a;issue b of a;sum 9999 to a rank 4;dead b;");
        Checks.right("debt 0;cash 0;months 0;rate 0;months 240;rate 99;rule worth;");
        Checks.right("child hash;child bead;child gate;child im;child ro;child mum;child wold;");
        Checks.right("child worths;child thin;child rulew;");
        Checks.right("child a;" + " ".repeat(392));
    }

    private static void names() {
        WillHouse house = Checks.house("thing a 5;child abcdef;thing xyz 5;friend q;");
        for (int k = 0; k < 6; k++) {
            Checks.same("letter", house.name(true, 0, k), 'a' + k);
        }
        Checks.same("behind", house.name(true, 0, 6), -1);
        Checks.same("far behind", house.name(true, 0, Integer.MAX_VALUE), -1);
        Checks.same("ahead", house.name(true, 0, -1), -1);
        Checks.same("person", house.name(true, 1, 0), 'q');
        Checks.same("behind", house.name(true, 1, 1), -1);
        Checks.same("thing", house.name(false, 1, 2), 'z');
        Checks.same("behind", house.name(false, 0, 1), -1);
        Checks.noIndex("no such thing", () -> house.name(false, 2, 0));
        Checks.noIndex("no such thing", () -> house.name(false, -1, 0));
        Checks.noIndex("no such person", () -> house.name(true, 2, -1));
        Checks.noIndex("no such person", () -> house.name(true, -1, 0));
        WillHouse things = Checks.house("child p;thing a 1;thing b 1;");
        Checks.same("thing", things.name(false, 1, 0), 'b');
        Checks.noIndex("no such person", () -> things.name(true, 1, 0));
    }
}
