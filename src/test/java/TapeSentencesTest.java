/** Promises 1 to 6: a new object, the TAPE, read, fault, name, a test for each sentence. */
final class TapeSentencesTest {
    public static void main(String[] names) throws IllegalAccessException {
        Sentences.run(TapeSentencesTest.class, names);
    }

    @Sentence(of = "Promise 1", says = "Nothing, nobody.")
    static void nothingNobody() {
        WillHouse house = new WillHouse();
        Checks.row("count", house::count, 0, 0, 0, 0, 0, 0, 5, 0, 0, 0, 0, 0, 0, 0, 0);
        Checks.same("no TAPE", house.feed(0, 0, 0, 0, 0), 20);
        Checks.same("nothing to undo", house.undo(), -1);
        Checks.same("no heir", house.heir(0), -1);
        Checks.same("nobody ranked", house.ranked(0), -1);
        Checks.same("nothing written", house.octet(0), -1);
        Checks.noIndex("no thing", () -> house.thing(0, 0));
        Checks.noIndex("no person", () -> house.person(0, 0));
        Checks.noIndex("no gift", () -> house.gift(0, 0));
        // what one house is told, another does not know
        Checks.house("thing t 9;cash 7;child a;sum 5 to a;").write(0);
        WillHouse other = new WillHouse();
        Checks.row("count", other::count, 0, 0, 0, 0, 0, 0, 5, 0, 0, 0, 0, 0, 0, 0, 0);
    }

    @Sentence(of = "Promise 2", says = "Twenty bytes come behind the TAPE, of each number the highest first: how many it has;")
    static void twentyBytesEach() {
        WillHouse house = new WillHouse();
        // "thin" "g ab" "cd 1" "234;" "chil"
        Checks.same("feed", house.feed(0x7468696e, 0x67206162, 0x63642031, 0x3233343b, 0x6368696c), 20);
        // "d z;" and bytes above 127, which end() cuts off
        Checks.same("feed behind it", house.feed(0x64207a3b, -1, Integer.MIN_VALUE, 0x80808080, Integer.MAX_VALUE), 40);
        house.end(24);
        Checks.same("read", house.read(), 0);
        Checks.row("letter", k -> house.name(false, 0, k), 'a', 'b', 'c', 'd', -1);
        Checks.same("worth", house.thing(0, 0), 1234);
        Checks.same("child", house.name(true, 0, 0), 'z');
        for (int times = 1; times <= 20; times++) {
            Checks.same("feed", house.feed(0, 0, 0, 0, 0), 20 * times);
        }
    }

    private static int feedBlanks(WillHouse house) {
        return house.feed(0x20202020, 0x20202020, 0x20202020, 0x20202020, 0x20202020);
    }

    private static WillHouse blanks(int length) {
        WillHouse house = new WillHouse();
        for (int times = 1; times <= 20; times++) {
            feedBlanks(house);
        }
        house.end(length);
        return house;
    }

    @Sentence(of = "Promise 2", says = "NONE, and none come, if it would have more than 400.")
    static void noneAboveFourHundred() {
        for (int length : new int[] {400, 399, 381}) {
            WillHouse house = blanks(length);
            Checks.same("feed behind " + length, house.feed(0x3f3f3f3f, 0x3f3f3f3f, 0x3f3f3f3f, 0x3f3f3f3f, 0x3f3f3f3f), -1);
            Checks.no("none came", house.end(length + 1));
            Checks.yes("none went", house.end(length));
            Checks.same("read of blanks alone", Answers.outcome(house::read), "0");
        }
        WillHouse house = blanks(380);
        Checks.same("feed to 400", feedBlanks(house), 400);
        Checks.yes("all came", house.end(400));
    }

    private static WillHouse fed(int times) {
        WillHouse house = new WillHouse();
        for (int i = 0; i < times; i++) {
            // "child a ; child b ; "
            house.feed(0x6368696c, 0x64206120, 0x3b206368, 0x696c6420, 0x62203b20);
        }
        return house;
    }

    @Sentence(of = "Promise 3", says = "The TAPE has its first n bytes alone: true;")
    static void firstBytesAlone() {
        WillHouse house = fed(1);
        Checks.yes("all", house.end(20));
        Checks.yes("half", house.end(10));
        Checks.same("read", house.read(), 0);
        Checks.same("the first alone", house.count(1), 1);
        Checks.same("it is a", house.name(true, 0, 0), 'a');
        house.feed(0, 0, 0, 0, 0);
        Checks.yes("none", house.end(0));
        Checks.same("read of nothing", house.read(), 0);
        Checks.same("nobody", house.count(1), 0);
        Checks.yes("none of none", house.end(0));
        WillHouse cut = fed(1);
        cut.end(13);
        Checks.same("what comes then stands behind the 13", cut.feed(0, 0, 0, 0, 0), 33);
        Checks.yes("all of 400", fed(20).end(400));
    }

    @Sentence(of = "Promise 3", says = "The TAPE has its first n bytes alone: true;")
    static void bytesCutOffAreNotRead() {
        String text = "child a;thing t 9;cash 55;sum 55 to a rank 4;sold t 5 owed 5;  ";
        for (int n = 0; n <= text.length(); n++) {
            WillHouse cut = new WillHouse();
            Checks.feed(cut, text);
            cut.end(n);
            WillHouse whole = new WillHouse();
            Checks.feed(whole, text.substring(0, n));
            Checks.same("read of the first " + n, Answers.outcome(cut::read), Answers.outcome(whole::read));
            Checks.same("fault", cut.fault(), whole.fault());
        }
    }

    @Sentence(of = "Promise 3", says = "false, and nothing happens, if it has fewer, or n is below 0.")
    static void noEndBehindOrBelow() {
        WillHouse house = fed(1);
        for (int n : new int[] {21, 22, 400, 401, Integer.MAX_VALUE, -1, -20, Integer.MIN_VALUE}) {
            Checks.no("end " + n, house.end(n));
        }
        Checks.same("nothing happened", house.read(), 0);
        Checks.same("both", house.count(1), 2);
        Checks.no("of an empty one", house.end(1));
        Checks.no("of an empty one", house.end(-1));
        Checks.no("of a full one", fed(20).end(401));
        // bytes that were cut off do not come again
        WillHouse cut = fed(1);
        cut.end(19);
        Checks.no("longer again", cut.end(20));
    }

    @Sentence(of = "Promise 4", says = "Uses the TAPE up: it is THE TEXT")
    static void usesTheTapeUp() {
        WillHouse house = fed(1);
        Checks.same("read", house.read(), 0);
        Checks.same("it is the text", house.count(1), 2);
        Checks.no("used up", house.end(1));
        Checks.same("feed from the beginning", house.feed(0, 0, 0, 0, 0), 20);
        Checks.noArgument("read of a wrong one", house::read);
        Checks.no("used up, too", house.end(1));
        Checks.same("the text stays", house.count(1), 2);
        Checks.same("read of an empty one", house.read(), 0);
        Checks.same("is a text, too", house.count(1), 0);
    }

    @Sentence(of = "Promise 4", says = "(in place of all but what was WRITTEN; nothing can be undone): how many GIFTS.")
    static void inPlaceOfAll() {
        String first = "thing t 9;thing u 9;thing v 9;cash 7;debt 6;months 5;rate 4;rule worth;child a;child b;issue c of b;"
                + "give t to a;from u 5 to a;sold t 5 owed 0;lost u insured 3;dead b;sum 5 to a rank 1;";
        String second = "thing w 1;thing t 2;thing u 3;friend b;issue d of b;sum 5 to d;give u to b;";
        WillHouse house = Checks.house(first);
        house.renounce(0, true);
        house.change(2, 5);
        house.die(0);
        // what was reckoned by the first text is not told of the second
        Checks.same("available", house.estate(1), 14);
        Checks.feed(house, second);
        Checks.same("how many gifts", house.read(), 2);
        Checks.same("nothing can be undone", house.undo(), -1);
        Checks.same("in place of all", Answers.of(house), Answers.of(Checks.house(second)));
        WillHouse writer = Checks.house(first);
        int length = writer.write(0);
        String written = Checks.octets(writer);
        Checks.feed(writer, second);
        writer.read();
        Checks.same("bytes written", writer.count(13), length);
        Checks.same("but what was written", Checks.octets(writer), written);
        Checks.same("no gifts", new WillHouse().read(), 0);
        WillHouse twelve = new WillHouse();
        Checks.feed(twelve, "child a;" + "sum 1 to a;".repeat(12));
        Checks.same("twelve gifts", twelve.read(), 12);
    }

    @Sentence(of = "Promise 4", says = "IllegalArgumentException: the text is wrong.")
    static void wrongTexts() {
        for (String text : new String[] {"?", ";", "child", "child a", "child a;x", "thing a 0;", "dead a;", "cash 100000;"}) {
            WillHouse house = new WillHouse();
            Checks.feed(house, text);
            Checks.noArgument("read of " + text, house::read);
        }
    }

    @Sentence(of = "Promise 5", says = "THE FAULT of the latest read();")
    static void faultOfTheLatest() {
        WillHouse house = new WillHouse();
        String[] texts = {"?", "child a;?", "cash 100000;"};
        int[] due = {0, 8, 5};
        for (int i = 0; i < texts.length; i++) {
            Checks.feed(house, texts[i]);
            Checks.noArgument("read", house::read);
            Checks.same("fault", house.fault(), due[i]);
        }
        house.set(0, 5);
        house.feed(0, 0, 0, 0, 0);
        house.undo();
        Checks.same("it stays until the next one", house.fault(), 5);
        Checks.same("400 at most", faultOf("child a" + " ".repeat(393)), 400);
        Checks.same("399", faultOf(" ".repeat(399) + "?"), 399);
    }

    private static int faultOf(String text) {
        WillHouse house = new WillHouse();
        Checks.feed(house, text);
        Checks.noArgument("read", house::read);
        return house.fault();
    }

    @Sentence(of = "Promise 5", says = "NONE without one, and ahead of any.")
    static void noFault() {
        WillHouse house = new WillHouse();
        Checks.same("ahead of any", house.fault(), -1);
        house.feed(0, 0, 0, 0, 0);
        Checks.same("ahead of any", house.fault(), -1);
        house.end(0);
        house.read();
        Checks.same("without one", house.fault(), -1);
        Checks.feed(house, "?");
        Checks.noArgument("read", house::read);
        Checks.same("with one", house.fault(), 0);
        house.read();
        Checks.same("without one again", house.fault(), -1);
    }

    @Sentence(of = "Promise 6", says = "Letter k (its byte) of the NAME of a THING (person false), a PERSON (true);")
    static void letters() {
        WillHouse house = Checks.house("thing azbycx 9;child dwevfu;thing z 9;friend a;");
        Checks.row("thing 0, letter", k -> house.name(false, 0, k), 'a', 'z', 'b', 'y', 'c', 'x');
        Checks.row("person 0, letter", k -> house.name(true, 0, k), 'd', 'w', 'e', 'v', 'f', 'u');
        Checks.same("thing 1", house.name(false, 1, 0), 'z');
        Checks.same("person 1", house.name(true, 1, 0), 'a');
    }

    @Sentence(of = "Promise 6", says = "NONE behind it.")
    static void noLetterBehind() {
        WillHouse house = Checks.house("thing abcdef 9;child ghijkl;thing z 9;friend a;");
        for (boolean person : new boolean[] {false, true}) {
            for (int k : new int[] {6, 7, 12, 400, Integer.MAX_VALUE}) {
                Checks.same("behind six letters", house.name(person, 0, k), -1);
            }
            for (int k : new int[] {1, 2, 5, 6, Integer.MAX_VALUE}) {
                Checks.same("behind one letter", house.name(person, 1, k), -1);
            }
        }
        // a shorter name where a longer one was
        Checks.feed(house, "thing ab 9;child g;");
        house.read();
        Checks.same("behind ab", house.name(false, 0, 2), -1);
        Checks.same("behind g", house.name(true, 0, 1), -1);
    }
}
