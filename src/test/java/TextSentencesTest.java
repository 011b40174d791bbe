import java.util.Arrays;
import java.util.List;

/** Terms 1: what THE TEXT is and where THE FAULT lies, a test for each sentence. */
final class TextSentencesTest {
    private static final String[] WORDS = ("thing cash debt child friend issue of give to sum rank from rest sold owed"
            + " changed lost insured dead months rate rule worth").split(" ");
    private static final String THING_AND_CHILD = "thing t 9;child a;";

    public static void main(String[] names) throws IllegalAccessException {
        Sentences.run(TextSentencesTest.class, names);
    }

    /** A LINE of this form is right; without one of its words it is wrong where the next word stands. */
    private static void form(String ahead, String line) {
        Checks.right(ahead + line + ";");
        String[] words = line.split(" ");
        for (int i = 0; i < words.length; i++) {
            String until = ahead + String.join(" ", Arrays.copyOf(words, i));
            String behind = String.join(" ", Arrays.copyOfRange(words, i + 1, words.length));
            Checks.wrongAt(until + " ^" + behind + ";");
            Checks.wrongAt(until + " ^? " + behind + ";");
            if (i > 0) {
                Checks.wrongAt(until + "^");
            }
            if (List.of(WORDS).contains(words[i])) {
                misspelt(until + " ", words[i], " " + behind + ";");
            }
            boolean mayEnd = i == 0 || words[i].equals("rank");
            if (!mayEnd) {
                Checks.wrongAt(until + "^;");
            }
        }
        Checks.wrongAt(ahead + line + "^");
        Checks.wrongAt(ahead + line + " ^?");
        Checks.wrongAt(ahead + line + " ^child b;");
    }

    private static void misspelt(String until, String word, String behind) {
        for (int k = 0; k < word.length(); k++) {
            Checks.wrongAt(until + "^" + word.substring(0, k) + 'z' + word.substring(k + 1) + behind);
        }
    }

    /** The number that stands for # goes from the least to the most. */
    private static void bounds(String text, int least, int most) {
        Checks.right(text.replace("#", "" + least));
        Checks.right(text.replace("#", "" + most));
        Checks.wrongAt(text.replace("#", "^" + (most + 1)));
        Checks.wrongAt(text.replace("#", "^" + (10 * most + 9)));
        if (least > 0) {
            Checks.wrongAt(text.replace("#", "^" + (least - 1)));
        }
    }

    @Sentence(of = "Terms 1", says = "THE TEXT has at most 400 bytes:")
    static void fourHundredBytes() {
        WillHouse house = Checks.house("child a;", " ".repeat(385), "cash 7;");
        Checks.same("cash told by the last bytes of 400", house.count(3), 7);
        // the sign that must come has no room any more
        Checks.wrongAt("child a;" + " ".repeat(386) + "cash 7^");
    }

    @Sentence(of = "Terms 1", says = "{ LINE ; }.")
    static void linesEachWithItsSign() {
        Checks.right("");
        Checks.right(" ");
        Checks.right("child a;");
        Checks.right("child a;child b;");
        Checks.wrongAt("^;");
        Checks.wrongAt("child a;^;");
        Checks.wrongAt("child a ^child b;");
        Checks.wrongAt("child a;child b^");
        // as many LINES as there is room for
        Checks.same("the last of 57 lines", Checks.house("rate 1;".repeat(56), "rate 2;").count(6), 2);
    }

    @Sentence(of = "Terms 1", says = "LINE: thing NAME N |")
    static void lineOfAThing() {
        form("", "thing t 9");
    }

    @Sentence(of = "Terms 1", says = "cash N |")
    static void lineOfCash() {
        form("", "cash 9");
    }

    @Sentence(of = "Terms 1", says = "debt N |")
    static void lineOfDebt() {
        form("", "debt 9");
    }

    @Sentence(of = "Terms 1", says = "child NAME |")
    static void lineOfAChild() {
        form("", "child a");
    }

    @Sentence(of = "Terms 1", says = "friend NAME |")
    static void lineOfAFriend() {
        form("", "friend a");
    }

    @Sentence(of = "Terms 1", says = "issue NAME of NAME |")
    static void lineOfIssue() {
        form("child a;", "issue c of a");
    }

    @Sentence(of = "Terms 1", says = "give NAME to NAME |")
    static void lineOfGive() {
        form(THING_AND_CHILD, "give t to a");
        Checks.wrongAt(THING_AND_CHILD + "give t to a ^rank 1;");
    }

    @Sentence(of = "Terms 1", says = "sum N to NAME [ rank N ] |")
    static void lineOfASum() {
        form("child a;", "sum 5 to a");
        form("child a;", "sum 5 to a rank 2");
        Checks.wrongAt("child a;sum 5 to a rank 2 ^rank 2;");
    }

    @Sentence(of = "Terms 1", says = "from NAME N to NAME [ rank N ] |")
    static void lineOfFrom() {
        form(THING_AND_CHILD, "from t 5 to a");
        form(THING_AND_CHILD, "from t 5 to a rank 2");
        Checks.wrongAt(THING_AND_CHILD + "from t 5 to a rank 2 ^rank 2;");
    }

    @Sentence(of = "Terms 1", says = "rest N to NAME |")
    static void lineOfTheRest() {
        form("child a;", "rest 5 to a");
        Checks.wrongAt("child a;rest 5 to a ^rank 1;");
    }

    @Sentence(of = "Terms 1", says = "sold NAME N owed N |")
    static void lineOfSold() {
        form("thing t 9;", "sold t 5 owed 4");
    }

    @Sentence(of = "Terms 1", says = "changed NAME N |")
    static void lineOfChanged() {
        form("thing t 9;", "changed t 5");
    }

    @Sentence(of = "Terms 1", says = "lost NAME insured N |")
    static void lineOfLost() {
        form("thing t 9;", "lost t insured 5");
    }

    @Sentence(of = "Terms 1", says = "dead NAME |")
    static void lineOfDead() {
        form("child a;", "dead a");
    }

    @Sentence(of = "Terms 1", says = "months N |")
    static void lineOfMonths() {
        form("", "months 5");
    }

    @Sentence(of = "Terms 1", says = "rate N |")
    static void lineOfRate() {
        form("", "rate 9");
    }

    @Sentence(of = "Terms 1", says = "rule worth.")
    static void lineOfTheRule() {
        form("", "rule worth");
    }

    @Sentence(of = "Terms 1", says = "NAME: 1 to 6 letters a to z,")
    static void oneToSixLetters() {
        for (String name : new String[] {"a", "z", "az", "zazaza", "zzzzzz"}) {
            Checks.right("child " + name + ";");
            Checks.right("thing " + name + " 9;");
        }
        Checks.wrongAt("child ^;");
        Checks.wrongAt("thing ^9;");
        Checks.wrongAt("child ^abcdefg;");
        Checks.wrongAt("thing ^abcdefg 9;");
        Checks.wrongAt("child ^" + "a".repeat(393) + ";");
        for (char sign : new char[] {'A', 'Z', '`', '{', '0', '9', '_', '-', (char) 0xe1, (char) 0xff}) {
            Checks.wrongAt("child ^" + sign + ";");
            Checks.wrongAt("child a^" + sign + ";");
        }
    }

    @Sentence(of = "Terms 1", says = "none of these words of the LINES.")
    static void noWordOfTheLines() {
        for (String word : WORDS) {
            Checks.wrongAt("child ^" + word + ";");
            Checks.wrongAt("friend ^" + word + ";");
            Checks.wrongAt("child a;issue ^" + word + " of a;");
            Checks.wrongAt("thing ^" + word + " 9;");
            // one letter less, or more, makes a name of it
            Checks.right("child " + word.substring(0, word.length() - 1) + ";");
            if (word.length() < 6) {
                Checks.right("child " + word + "x;");
                Checks.right("thing x" + word + " 9;");
            }
        }
    }

    @Sentence(of = "Terms 1", says = "N: 1 to 5 digits.")
    static void oneToFiveDigits() {
        Checks.same("one", Checks.house("cash 7;").count(3), 7);
        Checks.same("five", Checks.house("cash 12345;").count(3), 12345);
        Checks.same("five of which four are 0", Checks.house("cash 00007;").count(3), 7);
        Checks.right("thing a 00001;");
        Checks.wrongAt("cash ^;");
        Checks.wrongAt("cash ^000000;");
        Checks.wrongAt("cash ^000007;");
        Checks.wrongAt("rate ^000007;");
        Checks.wrongAt("cash ^" + "0".repeat(394) + ";");
        // numbers that wrap around to 1
        Checks.wrongAt("cash ^4294967297;");
        Checks.wrongAt("cash ^18446744073709551617;");
        for (char sign : new char[] {'/', ':', '-', '+', '.', 'x', (char) 0xb2}) {
            Checks.wrongAt("cash ^" + sign + ";");
            Checks.wrongAt("cash 1^" + sign + ";");
        }
    }

    @Sentence(of = "Terms 1", says = "BLANKS (9, 10, 32) may stand between all;")
    static void blanksBetweenAll() {
        String words = "|thing|t|9|;|child|a|;|issue|b|of|a|;|from|t|5|to|a|rank|2|;|sold|t|5|owed|4|;|rule|worth|;|";
        for (String blank : new String[] {"\t", "\n", " ", "\t\n  \n\t"}) {
            Checks.right(words.replace("|", blank));
        }
        // where two words cannot be taken for one, none is needed
        Checks.right("thing t9;child a;issue b of a;from t5to a rank2;sold t5owed4;rule worth;");
        Checks.right("\t\n ");
        for (char sign : new char[] {0, 8, 11, 12, 13, 31, 33, 127, 160}) {
            Checks.wrongAt("^" + sign + "child a;");
            Checks.wrongAt("child^" + sign + "a;");
            Checks.wrongAt("child a^" + sign + ";");
            Checks.wrongAt("child a;^" + sign);
        }
    }

    @Sentence(of = "Terms 1", says = "words are as many small letters as stand there,")
    static void wordsAsLongAsTheirLetters() {
        Checks.wrongAt("^childa;");
        Checks.wrongAt("^ruleworth;");
        Checks.wrongAt("^chi ld a;");
        Checks.wrongAt("^Child a;");
        Checks.wrongAt("rule ^worths;");
        Checks.wrongAt("child a;issue b ^ofa;");
        Checks.wrongAt("child a;sum 5 ^toa;");
        Checks.wrongAt("child a;sum 5 to ^arank 1;");
        Checks.wrongAt("child a;sum 5 to a ^rankx 1;");
        Checks.wrongAt("child ab;dead ^a b;");
        Checks.wrongAt("child ab;dead ^abc;");
        Checks.wrongAt("child ab;dead ^ac;");
    }

    @Sentence(of = "Terms 1", says = "N as many digits.")
    static void numbersAsLongAsTheirDigits() {
        Checks.same("all digits", Checks.house("cash 98765;").count(3), 98765);
        Checks.wrongAt("cash 12 ^3;");
        Checks.wrongAt("cash ^123456;");
        Checks.wrongAt("thing a ^12345;");
        Checks.same("up to a letter", Checks.house("child a;sum 12to a rank3;").gift(0, 3), 12);
    }

    @Sentence(of = "Terms 1", says = "thing: a THING (8 at most, numbered as they come)")
    static void eightThings() {
        String eight = Checks.each("thing # 9;", 8);
        WillHouse house = Checks.house(eight);
        Checks.same("things", house.count(0), 8);
        Checks.row("first letter of thing", i -> house.name(false, i, 0), 'a', 'b', 'c', 'd', 'e', 'f', 'g', 'h');
        Checks.wrongAt(eight + "^thing i 9;");
    }

    @Sentence(of = "Terms 1", says = "with its WORTH, 1 to 9999.")
    static void worthOfAThing() {
        bounds("thing a #;", 1, 9999);
        Checks.same("least", Checks.house("thing a 1;").thing(0, 0), 1);
        Checks.same("most", Checks.house("thing a 9999;").thing(0, 0), 9999);
    }

    @Sentence(of = "Terms 1", says = "cash, debt: 0 to 99999 (0 without).")
    static void cashAndDebt() {
        bounds("cash #;", 0, 99999);
        bounds("debt #;", 0, 99999);
        Checks.same("cash", Checks.house("cash 99999;").count(3), 99999);
        Checks.same("debt", Checks.house("debt 99999;").count(4), 99999);
        Checks.same("without cash", Checks.house("debt 5;").count(3), 0);
        Checks.same("without debt", Checks.house("cash 5;").count(4), 0);
    }

    @Sentence(of = "Terms 1", says = "child, friend, issue: a PERSON (12 at most, numbered);")
    static void twelvePersons() {
        String twelve = "child a;friend b;issue c of b;child d;friend e;issue f of a;child g;friend h;issue i of f;"
                + "child j;friend k;issue l of a;";
        WillHouse house = Checks.house(twelve);
        Checks.same("persons", house.count(1), 12);
        Checks.row("first letter of person", i -> house.name(true, i, 0),
                'a', 'b', 'c', 'd', 'e', 'f', 'g', 'h', 'i', 'j', 'k', 'l');
        Checks.wrongAt(twelve + "^child m;");
        Checks.wrongAt(twelve + "^friend m;");
        Checks.wrongAt(twelve + "^issue m of a;");
    }

    @Sentence(of = "Terms 1", says = "issue: behind of a PERSON told ahead, the PARENT.")
    static void parentToldAhead() {
        WillHouse house = Checks.house("child a;friend b;issue c of b;issue d of c;");
        Checks.row("parent of", person -> house.person(person, 0), -1, -1, 1, 2);
        Checks.wrongAt("issue b of ^a;child a;");
        Checks.wrongAt("child a;issue b of ^b;");
        Checks.wrongAt("thing t 9;child a;issue b of ^t;");
    }

    @Sentence(of = "Terms 1", says = "give: a SPECIFIC gift of a THING told ahead to a PERSON told ahead.")
    static void giveOfAThing() {
        WillHouse house = Checks.house("thing t 9;thing u 9;child a;child b;give u to b;");
        Checks.row("gift", what -> house.gift(0, what), 0, 1, 1, -1, -1);
        Checks.wrongAt("child a;give ^t to a;thing t 9;");
        Checks.wrongAt("thing t 9;give t to ^a;child a;");
        Checks.wrongAt("child a;child b;give ^b to a;");
        Checks.wrongAt("thing t 9;thing u 9;child a;give t to ^u;");
    }

    @Sentence(of = "Terms 1", says = "sum: a GENERAL gift, 1 to 9999.")
    static void sumOfASum() {
        bounds("child a;sum # to a;", 1, 9999);
        WillHouse house = Checks.house("child a;sum 9999 to a;sum 1 to a;");
        Checks.same("general", house.gift(0, 0), 1);
        Checks.row("sum", gift -> house.gift(gift, 3), 9999, 1);
        Checks.wrongAt("sum 5 to ^a;child a;");
        Checks.wrongAt(THING_AND_CHILD + "sum 5 to ^t;");
    }

    @Sentence(of = "Terms 1", says = "from: a DEMONSTRATIVE gift of 1 to 9999 out of a THING told ahead, its FUND.")
    static void sumOutOfAFund() {
        bounds(THING_AND_CHILD + "from t # to a;", 1, 9999);
        WillHouse house = Checks.house("thing t 9;thing u 9;child a;from u 9999 to a;from t 1 to a;");
        Checks.same("demonstrative", house.gift(0, 0), 2);
        Checks.row("fund", gift -> house.gift(gift, 2), 1, 0);
        Checks.row("sum", gift -> house.gift(gift, 3), 9999, 1);
        Checks.wrongAt("child a;from ^t 5 to a;thing t 9;");
        Checks.wrongAt("child a;from ^a 5 to a;");
        Checks.wrongAt("thing t 9;from t 5 to ^a;child a;");
    }

    @Sentence(of = "Terms 1", says = "rest: SHARES 1 to 9 of THE REST to a PERSON.")
    static void sharesOfTheRest() {
        bounds("child a;rest # to a;", 1, 9);
        WillHouse house = Checks.house("child a;rest 9 to a;rest 1 to a;");
        Checks.same("rest", house.gift(0, 0), 3);
        Checks.row("shares", gift -> house.gift(gift, 3), 9, 1);
        Checks.wrongAt("rest 5 to ^a;child a;");
        Checks.wrongAt(THING_AND_CHILD + "rest 5 to ^t;");
    }

    @Sentence(of = "Terms 1", says = "rank: 1 to 4 (4 without).")
    static void ranks() {
        bounds("child a;sum 5 to a rank #;", 1, 4);
        bounds(THING_AND_CHILD + "from t 5 to a rank #;", 1, 4);
        WillHouse house = Checks.house(THING_AND_CHILD, "sum 5 to a rank 1;sum 5 to a;from t 5 to a rank 3;from t 5 to a;");
        Checks.row("rank", gift -> house.gift(gift, 4), 1, 4, 3, 4);
    }

    @Sentence(of = "Terms 1", says = "GIFTS (12 at most, all kinds together) are numbered as they come;")
    static void twelveGifts() {
        String ahead = Checks.each("thing # 1;", 5) + "child a;";
        String four = "give # to a;sum 1 to a;rest 1 to a;from e 1 to a;";
        String twelve = ahead + Checks.each(four, 3);
        WillHouse house = Checks.house(twelve);
        Checks.same("gifts", house.count(2), 12);
        Checks.row("kind of", gift -> house.gift(gift, 0), 0, 1, 3, 2, 0, 1, 3, 2, 0, 1, 3, 2);
        Checks.wrongAt(twelve + "^give d to a;");
        Checks.wrongAt(twelve + "^sum 1 to a;");
        Checks.wrongAt(twelve + "^rest 1 to a;");
        Checks.wrongAt(twelve + "^from e 1 to a;");
    }

    @Sentence(of = "Terms 1", says = "a THING is given (by give) once at most,")
    static void givenOnce() {
        Checks.wrongAt("thing t 9;child a;child b;give t to a;give ^t to b;");
        Checks.wrongAt("thing t 9;thing u 9;child a;give t to a;give u to a;give ^t to a;");
        Checks.right("thing t 9;thing u 9;child a;give t to a;give u to a;");
        // a text that told it so does not bind the next ones
        String first = "thing t 9;child a;give t to a;";
        String eighth = Checks.each("thing # 9;", 8) + "child a;give h to a;";
        readsOneGift(first, eighth, first, eighth, eighth, first, first);
    }

    @Sentence(of = "Terms 1", says = "and then is no FUND (and the other way round).")
    static void givenOrFund() {
        Checks.wrongAt("thing t 9;child a;give t to a;from ^t 5 to a;");
        Checks.wrongAt("thing t 9;child a;from t 5 to a;give ^t to a;");
        Checks.right("thing t 9;thing u 9;child a;give t to a;from u 5 to a;");
        Checks.right("thing t 9;child a;from t 5 to a;from t 5 to a;");
        String give = Checks.each("thing # 9;", 8) + "child a;give h to a;";
        String from = Checks.each("thing # 9;", 8) + "child a;from h 5 to a;";
        readsOneGift(give, give, from, from, give, give, from);
    }

    private static void readsOneGift(String... texts) {
        WillHouse house = new WillHouse();
        for (String text : texts) {
            Checks.feed(house, text);
            Checks.same("read of " + text, Answers.outcome(house::read), "1");
        }
    }

    @Sentence(of = "Terms 1", says = "sold: of a THING that is HELD, for 1 to 9999, of which is OWED yet 0 to that.")
    static void soldForHowMuch() {
        bounds("thing t 9;sold t # owed 0;", 1, 9999);
        bounds("thing t 9;sold t 1 owed #;", 0, 1);
        bounds("thing t 9;sold t 9999 owed #;", 0, 9999);
        Checks.wrongAt("thing t 9;sold t 5 owed 5;sold ^t 5 owed 5;");
        Checks.wrongAt("thing t 9;lost t insured 5;sold ^t 5 owed 5;");
        Checks.right("thing t 9;changed t 8;sold t 5 owed 5;");
        Checks.wrongAt("sold ^t 5 owed 5;");
        Checks.wrongAt("child a;sold ^a 5 owed 5;");
    }

    @Sentence(of = "Terms 1", says = "changed: of a THING that is HELD: its WORTH now (1 to 9999).")
    static void changedToHowMuch() {
        bounds("thing t 9;changed t #;", 1, 9999);
        Checks.same("worth now", Checks.house("thing t 9;changed t 8;changed t 9999;").thing(0, 0), 9999);
        Checks.wrongAt("thing t 9;sold t 5 owed 5;changed ^t 5;");
        Checks.wrongAt("thing t 9;lost t insured 5;changed ^t 5;");
        Checks.wrongAt("changed ^t 5;");
    }

    @Sentence(of = "Terms 1", says = "lost: of a THING that is HELD, INSURED for 0 to 9999 (not paid out yet).")
    static void lostForHowMuch() {
        bounds("thing t 9;lost t insured #;", 0, 9999);
        WillHouse house = Checks.house("cash 7;thing t 9;lost t insured 9999;");
        Checks.same("cash is not paid out", house.count(3), 7);
        Checks.same("insured", house.thing(0, 3), 9999);
        Checks.wrongAt("thing t 9;lost t insured 5;lost ^t insured 5;");
        Checks.wrongAt("thing t 9;sold t 5 owed 5;lost ^t insured 5;");
        Checks.wrongAt("lost ^t insured 5;");
    }

    @Sentence(of = "Terms 1", says = "dead: a PERSON that is not yet.")
    static void deadOnce() {
        Checks.wrongAt("child a;dead a;dead ^a;");
        Checks.wrongAt("friend a;child b;dead a;dead b;dead ^a;");
        Checks.wrongAt("dead ^a;child a;");
        Checks.wrongAt("thing t 9;dead ^t;");
        Checks.same("living", Checks.house("friend a;child b;issue c of b;dead c;dead a;").count(8), 1);
    }

    @Sentence(of = "Terms 1", says = "months: 0 to 240 (0 without);")
    static void months() {
        bounds("months #;", 0, 240);
        Checks.same("most", Checks.house("months 240;").count(5), 240);
        Checks.same("without", Checks.house("cash 7;").count(5), 0);
    }

    @Sentence(of = "Terms 1", says = "rate: 0 to 99 (5 without);")
    static void rate() {
        bounds("rate #;", 0, 99);
        Checks.same("none", Checks.house("rate 0;").count(6), 0);
        Checks.same("most", Checks.house("rate 99;").count(6), 99);
        Checks.same("without", Checks.house("cash 7;").count(6), 5);
    }

    @Sentence(of = "Terms 1", says = "rule: RULE is WORTH.")
    static void rule() {
        Checks.same("rule", Checks.house("rule worth;").count(7), 1);
        Checks.same("told twice", Checks.house("rule worth;rule worth;").count(7), 1);
        Checks.same("without", Checks.house("cash 7;").count(7), 0);
    }

    @Sentence(of = "Terms 1", says = "Of cash, debt, months, rate the last one counts;")
    static void lastOnesCount() {
        WillHouse house = Checks.house("cash 1;debt 2;months 3;rate 4;cash 11;debt 12;months 13;rate 14;",
                "rate 0;months 0;debt 0;cash 0;cash 5;debt 6;months 7;rate 8;");
        Checks.row("told", what -> house.count(3 + what), 5, 6, 7, 8);
        WillHouse nothing = Checks.house("cash 1;debt 2;months 3;rate 4;rate 0;months 0;debt 0;cash 0;");
        Checks.row("told", what -> nothing.count(3 + what), 0, 0, 0, 0);
    }

    @Sentence(of = "Terms 1", says = "sold puts what is not OWED to cash as it is then.")
    static void soldPutsToCash() {
        Checks.same("behind cash", Checks.house("thing t 9;cash 7;sold t 5 owed 3;").count(3), 9);
        Checks.same("ahead of cash", Checks.house("thing t 9;cash 9;sold t 5 owed 3;cash 7;").count(3), 7);
        Checks.same("without cash", Checks.house("thing t 9;sold t 5 owed 0;").count(3), 5);
        Checks.same("all owed", Checks.house("thing t 9;cash 99999;sold t 5 owed 5;").count(3), 99999);
        Checks.same("twice", Checks.house("thing t 9;thing u 9;sold t 5 owed 1;sold u 9 owed 2;").count(3), 11);
    }

    @Sentence(of = "Terms 1", says = "NAMES of THINGS, of PERSONS: each once among their like.")
    static void namesOnce() {
        Checks.wrongAt("thing a 9;thing ^a 8;");
        Checks.wrongAt("child a;child ^a;");
        Checks.wrongAt("child a;friend ^a;");
        Checks.wrongAt("friend a;issue ^a of a;");
        Checks.wrongAt("child a;issue b of a;child ^b;");
        Checks.wrongAt(Checks.each("child #;", 11) + "child ^a;");
        Checks.wrongAt(Checks.each("thing # 1;", 7) + "thing ^a 1;");
        Checks.right("thing a 9;child a;thing ab 9;child ab;child ba;");
        // a name of the text ahead is free again
        WillHouse house = Checks.house("child a;thing t 9;");
        Checks.feed(house, "thing t 9;child a;");
        Checks.same("read", Answers.outcome(house::read), "0");
    }

    @Sentence(of = "Terms 1", says = "THE FAULT: the first byte with which no such text goes on")
    static void firstOfSeveralFaults() {
        Checks.wrongAt("^foo;bar;");
        Checks.wrongAt("cash ^100000;foo;");
        Checks.wrongAt("child a;^foo;cash 100000;");
        Checks.wrongAt("child ^abcdefg child;");
        Checks.wrongAt("^?");
        // the last of 400 bytes
        Checks.wrongAt("child a;" + " ".repeat(391) + "^?");
    }

    @Sentence(of = "Terms 1", says = "(a word, a number at its first byte: one too long, out of bounds;")
    static void wordsAndNumbersAtTheirFirstByte() {
        Checks.wrongAt("child a; ^childx b;");
        Checks.wrongAt("child a;sum 5  ^ton;");
        Checks.wrongAt("child  ^abcdefg;");
        Checks.wrongAt("cash  ^100000;");
        Checks.wrongAt("cash  ^000000;");
        Checks.wrongAt("rate  ^100;");
        Checks.wrongAt("child a;rest  ^10 to a;");
        Checks.wrongAt("child a;sum 5 to a rank  ^41;");
    }

    @Sentence(of = "Terms 1", says = "a NAME told already,")
    static void faultOfANameToldAlready() {
        Checks.wrongAt("child ab;child  ^ab;");
        Checks.wrongAt("thing ab 9;thing  ^ab 9;");
        Checks.wrongAt("child ab;issue  ^ab of ab;");
    }

    @Sentence(of = "Terms 1", says = "or not told,")
    static void faultOfANameNotTold() {
        Checks.wrongAt("child ab;dead  ^ac;");
        Checks.wrongAt("child ab;issue c of  ^abc;");
        Checks.wrongAt("child ab;give  ^ab to ab;");
        Checks.wrongAt("thing ab 9;sum 5 to  ^ab;");
    }

    @Sentence(of = "Terms 1", says = "or of what cannot be so any more;")
    static void faultOfWhatCannotBeSo() {
        Checks.wrongAt("thing ab 9;child c;give ab to c;give  ^ab to c;");
        Checks.wrongAt("thing ab 9;child c;give ab to c;from  ^ab 5 to c;");
        Checks.wrongAt("thing ab 9;sold ab 9 owed 9;changed  ^ab 9;");
        Checks.wrongAt("child ab;dead ab;dead  ^ab;");
    }

    @Sentence(of = "Terms 1", says = "a ninth thing, a 13th PERSON, a 13th GIFT at its first word;")
    static void faultOfOneTooMany() {
        Checks.wrongAt(Checks.each("thing # 1;", 8) + " ^thing");
        // ahead of all else that is wrong in the LINE
        Checks.wrongAt(Checks.each("thing # 1;", 8) + " ^thing a 0;");
        Checks.wrongAt(Checks.each("child #;", 12) + " ^child a;");
        Checks.wrongAt(Checks.each("child #;", 12) + " ^issue a of m;");
        Checks.wrongAt("child a;" + "sum 1 to a;".repeat(12) + " ^sum 0 to b;");
        Checks.wrongAt("child a;" + "sum 1 to a;".repeat(12) + " ^give b to b;");
        Checks.wrongAt("child a;" + "rest 1 to a;".repeat(12) + " ^from");
    }

    @Sentence(of = "Terms 1", says = "cash above 99999 by sold: at the number OWED);")
    static void faultOfTooMuchCash() {
        Checks.right("cash 99999;thing t 9;sold t 5 owed 5;");
        Checks.right("cash 99994;thing t 9;sold t 5 owed 0;");
        Checks.wrongAt("cash 99995;thing t 9;sold t 5 owed  ^0;");
        Checks.wrongAt("cash 99999;thing t 9;sold t 5 owed  ^4;");
        Checks.wrongAt("cash 90001;thing t 9;sold t 9999 owed  ^0;");
        Checks.right("cash 99999;thing t 9;cash 0;sold t 5 owed 0;");
    }

    @Sentence(of = "Terms 1", says = "the text's length, if more must come.")
    static void faultAtTheLength() {
        String line = "|sum|5|to|a|rank|2|";
        for (int at = line.indexOf('|', 1); at > 0; at = line.indexOf('|', at + 1)) {
            String until = line.substring(1, at).replace('|', ' ');
            Checks.wrongAt("child a;" + until + "^");
            Checks.wrongAt("child a;" + until + " \t\n^");
            // up to the last of 400 bytes
            Checks.wrongAt("child a;" + " ".repeat(392 - until.length()) + until + "^");
        }
        Checks.wrongAt("child^");
        Checks.wrongAt("rule worth^");
        Checks.wrongAt("cash 5^");
        Checks.wrongAt("child a" + " ".repeat(393) + "^");
    }
}
