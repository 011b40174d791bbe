import java.util.function.IntSupplier;

/** All that a house answers of itself, as one text, to tell whether two houses are alike. Some 250 calls for a small one. */
final class Answers {
    private final WillHouse house;
    private final StringBuilder text = new StringBuilder();

    private Answers(WillHouse house) {
        this.house = house;
    }

    static String of(WillHouse house) {
        Answers answers = new Answers(house);
        answers.counts();
        answers.things();
        answers.persons();
        answers.gifts();
        answers.classes();
        answers.add("written", Checks.octets(house));
        return answers.text.toString();
    }

    private void add(String what, Object answer) {
        text.append(what).append(' ').append(answer).append('\n');
    }

    private void counts() {
        add("fault", house.fault());
        for (int what = 0; what <= 14; what++) {
            add("count " + what, house.count(what));
        }
        for (int what = 0; what <= 7; what++) {
            add("estate " + what, house.estate(what));
        }
        for (int k = 0; k <= house.count(11); k++) {
            add("heir " + k, house.heir(k));
        }
        for (int k = 0; k <= house.count(1); k++) {
            add("ranked " + k, house.ranked(k));
        }
    }

    private void name(boolean person, int i) {
        StringBuilder name = new StringBuilder();
        for (int k = 0; house.name(person, i, k) != WillHouse.NONE && k < 9; k++) {
            name.append((char) house.name(person, i, k));
        }
        add("name of " + person + " " + i, name);
    }

    private void things() {
        for (int thing = 0; thing < house.count(0); thing++) {
            name(false, thing);
            for (int what = 0; what <= 4; what++) {
                add("thing " + thing + " " + what, house.thing(thing, what));
            }
            add("left " + thing, house.left(thing));
        }
    }

    private void persons() {
        for (int person = 0; person < house.count(1); person++) {
            name(true, person);
            for (int what = 0; what <= 5; what++) {
                add("person " + person + " " + what, house.person(person, what));
            }
            for (int what = 0; what <= 2; what++) {
                add("taken " + person + " " + what, house.taken(person, what));
            }
            for (int k = 0; k <= house.person(person, 5); k++) {
                add("stock " + person + " " + k, house.stock(person, k));
            }
        }
    }

    private void gifts() {
        for (int gift = 0; gift < house.count(2); gift++) {
            for (int what = 0; what <= 6; what++) {
                add("gift " + gift + " " + what, house.gift(gift, what));
                add("due " + gift + " " + what, house.due(gift, what));
                add("gets " + gift + " " + what, house.gets(gift, what));
            }
            add("part " + gift, house.part(gift));
            for (int person = 0; person < house.count(1); person++) {
                add("takes " + gift + " " + person, house.takes(gift, person));
            }
        }
    }

    private void classes() {
        for (int kind = 0; kind <= 6; kind++) {
            for (int what = 0; what <= 2; what++) {
                add("classed " + kind + " " + what, house.classed(kind, what));
            }
        }
        for (int kind = 0; kind <= 4; kind++) {
            add("leastDebt " + kind, house.leastDebt(kind));
            add("needed " + kind, house.needed(kind));
        }
    }

    /** What an answer is, or which exception is thrown instead. */
    static String outcome(IntSupplier call) {
        try {
            return String.valueOf(call.getAsInt());
        } catch (RuntimeException thrown) {
            return "throws " + thrown.getClass().getName();
        }
    }
}
