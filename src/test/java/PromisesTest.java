/** The promises of the document, one by one: ordinary inputs, edges, and wrong inputs. */
public final class PromisesTest {
    private static final Class<?> INDEX = Check.INDEX;
    private static final Class<?> ARGUMENT = Check.ARGUMENT;
    private static final Class<?> STATE = Check.STATE;
    private static final int FAR = Check.FAR;
    private static final int DEEP = Check.DEEP;
    private static final int[] LEAST = {5, 1, 1, 0, 1, 1};
    private static final int[] MOST = {40, 20, 6, 30, 9, 20};
    private static final int[] FIRST = {20, 5, 4, 7, 3, 4};

    private static final Check check = new Check();

    public static void main(String[] args) {
        Tests.run(PromisesTest.class, check);
    }

    /** ann, bob and dan live at 3, cyd at 5; ann and dan have an egg, bob a pen, cyd some oats. */
    private static Mail example() {
        Mail mail = new Mail();
        mail.addPerson("ann", 3, 0);
        mail.addPerson("bob", 3, 1);
        mail.addPerson("cyd", 5, 2);
        mail.addPerson("dan", 3, 1);
        mail.addWord("egg");
        mail.addWord("pen");
        mail.addWord("oats*");
        mail.give(0, 0);
        mail.give(1, 1);
        mail.give(2, 2);
        mail.give(3, 0);
        return mail;
    }

    private static String named(int number) {
        return "p" + (char) ('a' + number);
    }

    static void newObject() {
        Mail mail = new Mail();
        check.is("NONE", HouseholdMail.NONE, -1);
        for (int what = 0; what <= 14; what++) {
            check.is("count(" + what + ") of a new object", mail.count(what), 0);
        }
        check.is("clearBuffer() of a new object", mail.clearBuffer(), 0);
        check.is("bestJoin() of a new object", mail.bestJoin(), 1);
        check.is("narrowest() of a new object", mail.narrowest(), 5);
        check.is("share() of a new object", mail.share(), 0.0);
    }

    static void addPerson() {
        Mail mail = new Mail();
        mail.type("abcdefgh");
        check.fails("addPerson(-1, 0)", mail, ARGUMENT, () -> mail.addPerson(-1, 0));
        check.fails("addPerson(20, 0)", mail, ARGUMENT, () -> mail.addPerson(20, 0));
        check.fails("addPerson(far)", mail, ARGUMENT, () -> mail.addPerson(FAR, 0));
        check.fails("addPerson(0, -1)", mail, ARGUMENT, () -> mail.addPerson(0, -1));
        check.fails("addPerson(0, 3)", mail, ARGUMENT, () -> mail.addPerson(0, 3));
        check.is("the first person", mail.addPerson(19, 2), 0);
        check.is("saved states behind it", mail.count(14), 1);
        check.is("the buffer behind it", mail.clearBuffer(), 0);
        check.is("its name", mail.nameOf(0), "abcdefgh");
        int[] values = {8, 19, 2, -1, 0, -1, 0, 0, 0};
        for (int what = 0; what <= 8; what++) {
            check.is("its property " + what, mail.person(0, what), values[what]);
        }
        check.fails("an empty name", mail, ARGUMENT, () -> mail.addPerson(0, 0));
        for (String text : new String[] {"abcdefghi", "ab*", "a_b", "A", "a1", "{", "`", "<n>"}) {
            mail.type(text);
            check.fails("addPerson of " + text, mail, ARGUMENT, () -> mail.addPerson(0, 0));
            mail.clearBuffer();
        }
        for (int i = 1; i < 20; i++) {
            check.is("one person more", mail.addPerson(named(i), 0, 0), i);
        }
        check.fails("21 persons, no name", mail, ARGUMENT, () -> mail.addPerson(0, 0));
        mail.type("zoe");
        check.fails("21 persons, bad form", mail, ARGUMENT, () -> mail.addPerson(0, 3));
        check.fails("21 persons", mail, STATE, () -> mail.addPerson(0, 0));
        mail.undo();
        check.is("the 20th once more", mail.addPerson(1, 1), 19);
        check.is("its name once more", mail.nameOf(19), "zoe");
        mail.take("a");
        check.is("send to 20 persons", mail.send(), 7);
        check.is("the first one had one", mail.person(0, 6), 1);
        check.is("the last one had one", mail.person(19, 6), 1);
    }

    static void addWord() {
        Mail mail = new Mail();
        for (String text : new String[] {"", "*", "abcdefghi", "abcdefghi*", "a**", "a*b", "A", "a_", "a."}) {
            mail.type(text);
            check.fails("addWord of " + text, mail, ARGUMENT, mail::addWord);
            mail.clearBuffer();
        }
        check.is("the first word", mail.addWord("abcdefgh*"), 0);
        check.is("saved states behind it", mail.count(14), 1);
        check.is("the buffer behind it", mail.clearBuffer(), 0);
        check.is("its letters", mail.word(0, 0), 8);
        check.is("its plural", mail.word(0, 1), 1);
        check.is("the second word", mail.addWord("a"), 1);
        check.is("its letters", mail.word(1, 0), 1);
        check.is("its plural", mail.word(1, 1), 0);
        for (int i = 2; i < 10; i++) {
            check.is("one word more", mail.addWord("w"), i);
        }
        check.fails("11 words, none typed", mail, ARGUMENT, mail::addWord);
        mail.type("w*");
        check.fails("11 words", mail, STATE, mail::addWord);
        mail.undo();
        check.is("the 10th once more", mail.addWord(), 9);
        check.is("its plural", mail.word(9, 1), 1);
        check.is("a change with 10 words", mail.pass(1), 1);
        check.is("its undo", mail.undo(), 5);
        check.is("words then", mail.count(1), 10);
        check.is("the last word then", mail.word(9, 1), 1);
    }

    static void take() {
        Mail mail = new Mail();
        String[] wrong = {"", "<", "<n", "<x>", "<n<", "{", "{}", "{a", "{a{b}}", "a}", "{<n}", "{<n>", "A", "a*", ">",
            "{a}}", "a&b", "{<"};
        for (String text : wrong) {
            mail.type(text);
            check.fails("take of " + text, mail, ARGUMENT, mail::take);
            mail.clearBuffer();
        }
        check.is("take of a", mail.take("a"), 0);
        check.is("saved states behind it", mail.count(14), 1);
        check.is("the buffer behind it", mail.clearBuffer(), 0);
        check.is("take of fields", mail.take("<n><g>{<w>a<c>}_,./|<n>"), 5);
        check.is("its fields", mail.count(2), 5);
        check.is("its items", mail.count(13), 12);
        check.is("take of another", mail.take("{/}{|}"), 0);
        check.is("its fields", mail.count(2), 0);
        check.is("its items", mail.count(13), 4);
        String full = "{<n><n><n><n><n><n><n><n><n><n><n><n><n><n><n><n><n><n><n>a}";
        check.is("take of 60 characters", mail.take(full), 19);
        check.is("its items", mail.count(13), 21);
    }

    static void move() {
        Mail mail = example();
        check.is("move", mail.move(3, 0), 3);
        check.is("move back", mail.move(3, 19), 0);
        check.is("the address", mail.person(3, 1), 19);
        check.is("another's address", mail.person(0, 1), 3);
        check.is("move to the same", mail.move(3, 19), 19);
        check.is("the letters then", mail.count(4), 3);
        check.fails("move(4, 0)", mail, INDEX, () -> mail.move(4, 0));
        check.fails("move(-1, 0)", mail, INDEX, () -> mail.move(-1, 0));
        check.fails("move(4, 20)", mail, INDEX, () -> mail.move(4, 20));
        check.fails("move(deep)", mail, INDEX, () -> mail.move(DEEP, DEEP));
        check.fails("move(0, 20)", mail, ARGUMENT, () -> mail.move(0, 20));
        check.fails("move(0, -1)", mail, ARGUMENT, () -> mail.move(0, -1));
    }

    static void give() {
        Mail mail = example();
        check.is("give", mail.give(0, 2), 0);
        check.is("give none", mail.give(0, HouseholdMail.NONE), 2);
        check.is("the word", mail.person(0, 3), -1);
        check.is("give again", mail.give(0, 1), -1);
        check.is("the word", mail.person(0, 3), 1);
        check.is("the owners", mail.word(1, 2), 2);
        check.fails("give(4, 0)", mail, INDEX, () -> mail.give(4, 0));
        check.fails("give(-1, 0)", mail, INDEX, () -> mail.give(-1, 0));
        check.fails("give(0, 3)", mail, INDEX, () -> mail.give(0, 3));
        check.fails("give(0, -2)", mail, INDEX, () -> mail.give(0, -2));
        check.fails("give(far)", mail, INDEX, () -> mail.give(FAR, FAR));
    }

    static void unsubscribe() {
        Mail mail = example();
        check.is("unsubscribe", mail.unsubscribe(1, true), 1);
        check.is("unsubscribe another", mail.unsubscribe(2, true), 2);
        check.is("unsubscribe again", mail.unsubscribe(2, true), 2);
        check.is("is it", mail.person(2, 4), 1);
        check.is("unsubscribe the first one", mail.unsubscribe(0, true), 3);
        check.is("subscribe the first one", mail.unsubscribe(0, false), 2);
        check.is("subscribe", mail.unsubscribe(1, false), 1);
        check.is("is it", mail.person(1, 4), 0);
        check.fails("unsubscribe(4)", mail, INDEX, () -> mail.unsubscribe(4, true));
        check.fails("unsubscribe(-1)", mail, INDEX, () -> mail.unsubscribe(-1, false));
    }

    static void set() {
        Mail mail = new Mail();
        for (int i = 0; i < 6; i++) {
            int setting = i;
            check.is("set to the least", mail.set(i, LEAST[i]), FIRST[i]);
            check.is("set to the most", mail.set(i, MOST[i]), LEAST[i]);
            check.fails("below the least", mail, ARGUMENT, () -> mail.set(setting, LEAST[setting] - 1));
            check.fails("above the most", mail, ARGUMENT, () -> mail.set(setting, MOST[setting] + 1));
            check.fails("far", mail, ARGUMENT, () -> mail.set(setting, FAR));
            check.is("the value then", mail.setting(i), MOST[i]);
        }
        check.fails("set(6, 1)", mail, INDEX, () -> mail.set(6, 1));
        check.fails("set(-1, 1)", mail, INDEX, () -> mail.set(-1, 1));
        check.fails("set(6, 1000)", mail, INDEX, () -> mail.set(6, 1000));
    }

    static void send() {
        Mail mail = new Mail();
        check.fails("send of nothing", mail, STATE, mail::send);
        mail.addPerson("ann", 0, 0);
        check.is("an empty letter would be sent", mail.letter(0, 7), 1);
        check.fails("send of an empty letter", mail, STATE, mail::send);
        mail.addPerson("bob", 0, 0);
        mail.addPerson("cyd", 1, 0);
        mail.take("a|b");
        mail.pass(5);
        check.is("send", mail.send(), 2);
        check.is("letters so far", mail.count(9), 2);
        check.is("pages so far", mail.count(10), 4);
        check.is("postage so far", mail.count(11), 16);
        check.is("the day of the letter", mail.person(1, 5), 5);
        check.is("letters of a person", mail.person(1, 6), 1);
        check.fails("send again", mail, STATE, mail::send);
        mail.pass(6);
        check.fails("send on the 6th day", mail, STATE, mail::send);
        mail.pass(1);
        mail.set(5, 20);
        check.is("send on the 7th day", mail.send(), 2);
        check.is("letters so far", mail.count(9), 4);
        check.is("pages so far", mail.count(10), 8);
        check.is("postage so far", mail.count(11), 96);
        check.is("the day of the letter", mail.person(2, 5), 12);
        check.is("letters of a person", mail.person(2, 6), 2);
        mail.set(3, 0);
        check.is("send without a pause", mail.send(), 2);
        mail.set(4, 1);
        check.fails("send of too many pages", mail, STATE, mail::send);
        mail.set(4, 2);
        mail.unsubscribe(0, true);
        mail.unsubscribe(1, true);
        mail.unsubscribe(2, true);
        check.fails("send to nobody", mail, STATE, mail::send);
    }

    static void sendOnlySome() {
        Mail mail = example();
        mail.take("a{|b|c|d}");
        check.is("letters", mail.count(4), 2);
        check.is("send", mail.send(), 1);
        check.is("cyd had one", mail.person(2, 6), 1);
        check.is("ann had none", mail.person(0, 6), 0);
        check.is("ann had none on a day", mail.person(0, 5), -1);
        check.is("pages so far", mail.count(10), 1);
        check.is("postage so far", mail.count(11), 4);
    }

    static void pass() {
        Mail mail = new Mail();
        check.fails("pass(0)", mail, ARGUMENT, () -> mail.pass(0));
        check.fails("pass(101)", mail, ARGUMENT, () -> mail.pass(101));
        check.fails("pass(far)", mail, ARGUMENT, () -> mail.pass(FAR));
        check.is("pass(1)", mail.pass(1), 1);
        for (int i = 1; i < 100; i++) {
            mail.pass(100);
        }
        check.is("the day", mail.count(3), 9901);
        check.is("saved states", mail.count(14), 6);
        check.fails("pass(100) beyond the last day", mail, STATE, () -> mail.pass(100));
        check.fails("pass(101) beyond the last day", mail, ARGUMENT, () -> mail.pass(101));
        check.is("pass(99)", mail.pass(99), 10000);
        check.fails("pass(1) beyond the last day", mail, STATE, () -> mail.pass(1));
        mail.undo();
        check.is("the day before", mail.count(3), 9901);
    }

    static void append() {
        Mail mail = new Mail();
        check.fails("append(32)", mail, ARGUMENT, () -> mail.append(32));
        check.fails("append(127)", mail, ARGUMENT, () -> mail.append(127));
        check.fails("append(deep)", mail, ARGUMENT, () -> mail.append(DEEP));
        check.is("append(33)", mail.append(33), 1);
        check.is("append(126)", mail.append(126), 2);
        for (int i = 3; i <= 60; i++) {
            check.is("append", mail.append('a'), i);
        }
        check.fails("append of a 61st", mail, STATE, () -> mail.append('a'));
        check.fails("append(32) of a 61st", mail, ARGUMENT, () -> mail.append(32));
        check.is("saved states", mail.count(14), 0);
    }

    static void clearBuffer() {
        Mail mail = new Mail();
        mail.type("a*{");
        long before = mail.digest();
        check.is("clearBuffer()", mail.clearBuffer(), 3);
        check.is("clearBuffer() again", mail.clearBuffer(), 0);
        check.is("saved states", mail.count(14), 0);
        check.is("append then", mail.append('a'), 1);
        if (mail.digest() == before) {
            check.report("the digest doesn't tell the buffer");
        }
    }

    private static void errorAt(String text, int kind, int due) {
        Mail mail = new Mail().type(text);
        check.is("firstError(" + kind + ") of " + text, mail.firstError(kind), due);
        check.is("the buffer behind it", mail.clearBuffer(), text.length());
    }

    static void firstError() {
        errorAt("", 0, 0);
        errorAt("", 1, 0);
        errorAt("", 2, 0);
        errorAt("abcdefgh", 0, 8);
        errorAt("abcdefghi", 0, 8);
        errorAt("ab*", 0, 2);
        errorAt("*", 0, 0);
        errorAt("azA", 0, 2);
        errorAt("abcdefgh*", 1, 9);
        errorAt("abcdefgh**", 1, 9);
        errorAt("abcdefghi*", 1, 8);
        errorAt("a*b", 1, 2);
        errorAt("*", 1, 0);
        errorAt("a{", 1, 1);
        errorAt("a_,./|z", 2, 7);
        errorAt("a*", 2, 1);
        errorAt("<n><g><w><c>", 2, 12);
        errorAt("<a>", 2, 1);
        errorAt("<>", 2, 1);
        errorAt("<nn", 2, 2);
        errorAt("<n", 2, 2);
        errorAt("n>", 2, 1);
        errorAt("{<n>/|_,.}", 2, 10);
        errorAt("{}", 2, 1);
        errorAt("{a}}", 2, 3);
        errorAt("{a{", 2, 2);
        errorAt("{{", 2, 1);
        errorAt("{<n}", 2, 3);
        errorAt("{<}", 2, 2);
        errorAt("{a}{<w>}", 2, 8);
        errorAt("{a", 2, 2);
        errorAt("a}", 2, 1);
        errorAt("&", 2, 0);
        Mail shorter = new Mail().type("ab*");
        shorter.clearBuffer();
        shorter.type("ab");
        check.is("a cleared star", shorter.firstError(1), 2);
        check.is("a word without it", shorter.addWord(), 0);
        check.is("its plural", shorter.word(0, 1), 0);
        Mail full = new Mail();
        for (int i = 0; i < 60; i++) {
            full.append(i < 59 ? 'a' : '{');
        }
        // A text of any length goes on behind the 60th character.
        check.is("a joint part begun at the end", full.firstError(2), 60);
        check.fails("take of it", full, ARGUMENT, full::take);
        check.fails("firstError(3)", full, ARGUMENT, () -> full.firstError(3));
        check.fails("firstError(-1)", full, ARGUMENT, () -> full.firstError(-1));
    }

    static void undo() {
        Mail mail = new Mail();
        check.fails("undo of nothing", mail, STATE, mail::undo);
        for (int i = 1; i <= 9; i++) {
            mail.pass(i);
            check.is("saved states", mail.count(14), Math.min(i, 6));
        }
        mail.type("ab");
        int day = 45;
        for (int left = 5; left >= 0; left--) {
            check.is("undo()", mail.undo(), left);
            day -= left + 4;
            check.is("the day before", mail.count(3), day);
        }
        check.fails("undo of a 7th", mail, STATE, mail::undo);
        check.is("the buffer stays", mail.clearBuffer(), 2);
        check.is("a change behind undo", mail.pass(3), 9);
        check.is("its undo", mail.undo(), 0);
        check.is("the day", mail.count(3), 6);
    }

    private interface Change {
        void on(Mail mail);
    }

    private static void undoes(String what, Change change) {
        Mail mail = example();
        mail.take("<n>_<w>");
        mail.pass(1);
        mail.undo();
        long before = mail.digest();
        int saved = mail.count(14);
        change.on(mail);
        check.is("saved states behind " + what, mail.count(14), saved + 1);
        check.is("undo of " + what, mail.undo(), saved);
        mail.clearBuffer();
        check.is("digest behind undo of " + what, mail.digest(), before);
    }

    static void undoOfEachCall() {
        undoes("addPerson", mail -> mail.addPerson("eve", 3, 0));
        undoes("addWord", mail -> mail.addWord("ink"));
        undoes("take", mail -> mail.take("b<c>"));
        undoes("move", mail -> mail.move(0, 5));
        undoes("move to the same", mail -> mail.move(0, 3));
        undoes("give", mail -> mail.give(0, 1));
        undoes("give of the same", mail -> mail.give(0, mail.person(0, 3)));
        undoes("unsubscribe", mail -> mail.unsubscribe(0, true));
        undoes("unsubscribe of the same", mail -> mail.unsubscribe(0, false));
        undoes("set", mail -> mail.set(0, 5));
        undoes("set of the same", mail -> mail.set(0, 20));
        undoes("send", Mail::send);
        undoes("pass", mail -> mail.pass(100));
    }

    static void undoOfSend() {
        Mail mail = example();
        mail.take("<n>");
        mail.pass(2);
        mail.send();
        check.is("letters so far", mail.count(9), 2);
        mail.undo();
        check.is("letters then", mail.count(9), 0);
        check.is("pages then", mail.count(10), 0);
        check.is("postage then", mail.count(11), 0);
        check.is("a person's letters then", mail.person(0, 6), 0);
        check.is("a person's day then", mail.person(0, 5), -1);
        check.is("send again", mail.send(), 2);
    }

    static void person() {
        Mail mail = example();
        mail.unsubscribe(3, true);
        mail.take("<n>");
        int[][] due = {{3, 3, 0, 0, 0, -1, 0, 0, 0}, {3, 3, 1, 1, 0, -1, 0, 0, 0},
            {3, 5, 2, 2, 0, -1, 0, 1, 0}, {3, 3, 1, 0, 1, -1, 0, -1, 1}};
        for (int i = 0; i < 4; i++) {
            for (int what = 0; what <= 8; what++) {
                check.is("person(" + i + ", " + what + ")", mail.person(i, what), due[i][what]);
            }
        }
        check.fails("person(4, 0)", mail, INDEX, () -> mail.person(4, 0));
        check.fails("person(-1, 0)", mail, INDEX, () -> mail.person(-1, 0));
        check.fails("person(4, 9)", mail, INDEX, () -> mail.person(4, 9));
        check.fails("person(0, 9)", mail, ARGUMENT, () -> mail.person(0, 9));
        check.fails("person(0, -1)", mail, ARGUMENT, () -> mail.person(0, -1));
    }

    static void reasons() {
        Mail mail = new Mail();
        mail.addPerson("ann", 0, 0);
        mail.take("a");
        mail.send();
        check.is("had one today", mail.person(0, 8), 2);
        mail.take("{<w>}");
        check.is("had one, and has no word", mail.person(0, 8), 2);
        mail.unsubscribe(0, true);
        check.is("all three", mail.person(0, 8), 1);
        check.is("no letter", mail.person(0, 7), -1);
        mail.unsubscribe(0, false);
        mail.pass(6);
        check.is("one day too early", mail.person(0, 8), 2);
        mail.pass(1);
        check.is("no word for a joint part", mail.person(0, 8), 3);
        check.is("no letter", mail.person(0, 7), -1);
        mail.take("<w>");
        check.is("no word for the letter", mail.person(0, 8), 3);
        mail.addWord("ink");
        mail.give(0, 0);
        check.is("nothing against", mail.person(0, 8), 0);
        mail.take("|||");
        check.is("four pages", mail.person(0, 8), 4);
        check.is("but a letter", mail.person(0, 7), 0);
        mail.set(4, 4);
        check.is("four pages are allowed", mail.person(0, 8), 0);
        mail.take("{|}|||");
        check.is("a joint part is not there", mail.person(0, 8), 0);
    }

    static void name() {
        Mail mail = new Mail();
        mail.addPerson("abcdefgh", 0, 0);
        mail.addPerson("z", 0, 0);
        check.is("name(0, 0)", mail.name(0, 0), 'a');
        check.is("name(0, 7)", mail.name(0, 7), 'h');
        check.is("name(1, 0)", mail.name(1, 0), 'z');
        check.fails("name(0, 8)", mail, INDEX, () -> mail.name(0, 8));
        check.fails("name(1, 1)", mail, INDEX, () -> mail.name(1, 1));
        check.fails("name(1, -1)", mail, INDEX, () -> mail.name(1, -1));
        check.fails("name(2, 0)", mail, INDEX, () -> mail.name(2, 0));
        check.fails("name(-1, 0)", mail, INDEX, () -> mail.name(-1, 0));
    }

    static void word() {
        Mail mail = example();
        int[][] due = {{3, 0, 2, 2}, {3, 0, 1, 1}, {4, 1, 1, 4}};
        for (int i = 0; i < 3; i++) {
            for (int what = 0; what <= 3; what++) {
                check.is("word(" + i + ", " + what + ")", mail.word(i, what), due[i][what]);
            }
        }
        check.is("word(0, 10)", mail.word(0, 10), 'e');
        check.is("word(2, 13)", mail.word(2, 13), 's');
        check.is("word(2, 14)", mail.word(2, 14), -1);
        check.is("word(0, 17)", mail.word(0, 17), -1);
        mail.addWord("abcdefgh");
        check.is("word(3, 17)", mail.word(3, 17), 'h');
        check.is("article of abcdefgh", mail.word(3, 3), 2);
        for (char first : "iouby".toCharArray()) {
            int number = mail.addWord("" + first);
            check.is("article of " + first, mail.word(number, 3), first == 'b' || first == 'y' ? 1 : 2);
        }
        mail.unsubscribe(0, true);
        check.is("owners who are unsubscribed", mail.word(0, 2), 2);
        for (int what : new int[] {-1, 4, 9, 18, FAR, DEEP}) {
            check.fails("word(0, " + what + ")", mail, ARGUMENT, () -> mail.word(0, what));
        }
        check.fails("word(9, 0)", mail, INDEX, () -> mail.word(9, 0));
        check.fails("word(-1, 0)", mail, INDEX, () -> mail.word(-1, 0));
        check.fails("word(9, 4)", mail, INDEX, () -> mail.word(9, 4));
    }

    static void letter() {
        Mail mail = example();
        mail.take("dear_<g>_<n>/{all_of_you_<c>_}have_<w>.|bye");
        mail.set(0, 12);
        mail.set(1, 2);
        int[][] due = {{0, 3, 3, 56, 6, 4, 16, 0}, {2, 1, 5, 30, 4, 3, 12, 1}};
        for (int i = 0; i < 2; i++) {
            for (int what = 0; what <= 7; what++) {
                check.is("letter(" + i + ", " + what + ")", mail.letter(i, what), due[i][what]);
            }
        }
        mail.set(5, 7);
        check.is("another postage", mail.letter(1, 6), 21);
        check.fails("letter(2, 0)", mail, INDEX, () -> mail.letter(2, 0));
        check.fails("letter(-1, 0)", mail, INDEX, () -> mail.letter(-1, 0));
        check.fails("letter(2, 8)", mail, INDEX, () -> mail.letter(2, 8));
        check.fails("letter(0, 8)", mail, ARGUMENT, () -> mail.letter(0, 8));
        check.fails("letter(0, -1)", mail, ARGUMENT, () -> mail.letter(0, -1));
    }

    private static void laidOut(String text, int width, int pageLines, int lines, int pages) {
        Mail mail = new Mail();
        mail.addPerson("ann", 0, 0);
        mail.take(text);
        mail.set(0, width);
        mail.set(1, pageLines);
        check.is("lines of " + text, mail.letter(0, 4), lines);
        check.is("pages of " + text, mail.letter(0, 5), pages);
        check.is("sent " + text, mail.letter(0, 7), pages <= 3 ? 1 : 0);
    }

    static void layout() {
        laidOut("abcde", 5, 5, 1, 1);
        laidOut("abcdef", 5, 5, 2, 1);
        laidOut("abcdefghij", 5, 5, 2, 1);
        laidOut("abcdefghijk", 5, 5, 3, 1);
        laidOut("ab_cd", 5, 5, 1, 1);
        laidOut("ab_cde", 5, 5, 2, 1);
        laidOut("abcdefg_hi", 5, 5, 2, 1);
        laidOut("abcdefg_hij", 5, 5, 3, 1);
        laidOut("a_abcdef_b", 5, 5, 3, 1);
        laidOut("_", 5, 5, 1, 1);
        laidOut("_abcd", 5, 5, 1, 1);
        laidOut("_abcde", 5, 5, 2, 1);
        laidOut("_abcdef", 5, 5, 3, 1);
        laidOut("abcd_", 5, 5, 1, 1);
        laidOut("abcde_", 5, 5, 2, 1);
        laidOut("abcde__", 5, 5, 2, 1);
        laidOut("_____", 5, 5, 1, 1);
        laidOut("______", 5, 5, 2, 1);
        laidOut("_______", 5, 5, 2, 1);
        laidOut("/", 5, 5, 2, 1);
        laidOut("a/b/c", 5, 2, 3, 2);
        laidOut("a/b/c/d", 5, 2, 4, 2);
        laidOut("|", 5, 5, 2, 2);
        laidOut("a|b/c|d", 5, 1, 4, 4);
        laidOut("a/b/|c", 5, 2, 4, 3);
        laidOut("<c>_a,b.", 6, 5, 1, 1);
        laidOut("<c>_a,b.", 5, 5, 2, 1);
    }

    static void sign() {
        Mail mail = example();
        mail.take("dear_<g>_<n>/{all_of_you_<c>_}have_<w>.|bye");
        check.is("the joint text", mail.text(0), "dear_all_ann,bob&dan/all_of_you_3_have_an_egg&a_pen.|bye");
        check.is("the single text", mail.text(1), "dear_x_cyd/have_some_oats.|bye");
        mail.give(3, 2);
        check.is("three words", mail.text(0),
            "dear_all_ann,bob&dan/all_of_you_3_have_an_egg,a_pen&some_oats.|bye");
        mail.give(1, 0);
        mail.move(0, 5);
        check.is("two of the same form", mail.text(1), "dear_ms_bob&dan/all_of_you_2_have_an_egg&some_oats.|bye");
        mail.move(0, 7);
        check.is("forms", mail.text(0), "dear_f_ann/have_an_egg.|bye");
        mail.move(0, 5);
        check.is("two forms", mail.text(0), "dear_all_ann&cyd/all_of_you_2_have_an_egg&some_oats.|bye");
        mail.give(0, 2);
        mail.give(2, 1);
        check.is("words in the order of the persons", mail.text(0),
            "dear_all_ann&cyd/all_of_you_2_have_some_oats&a_pen.|bye");
        mail.give(2, 2);
        check.is("a word once", mail.text(0), "dear_all_ann&cyd/all_of_you_2_have_some_oats.|bye");
        mail.move(0, 7);
        check.fails("sign at the end", mail, INDEX, () -> mail.sign(0, mail.letter(0, 3)));
        check.fails("sign(0, -1)", mail, INDEX, () -> mail.sign(0, -1));
        check.fails("sign(3, 0)", mail, INDEX, () -> mail.sign(3, 0));
        check.fails("sign(-1, 0)", mail, INDEX, () -> mail.sign(-1, 0));
    }

    static void longestText() {
        Mail mail = new Mail();
        for (int i = 0; i < 6; i++) {
            mail.addPerson("abcdefg" + (char) ('a' + i), 0, 0);
            mail.addWord("abcdefg" + (char) ('a' + i) + "*");
            mail.give(i, i);
        }
        mail.set(2, 6);
        mail.set(1, 20);
        mail.set(4, 9);
        mail.set(0, 13);
        mail.take("<w><w><w><w><w><w><w><w><w><w><w><w><w><w><w><w><w><w><w><w>");
        check.is("its length", mail.letter(0, 3), 1660);
        check.is("its last sign", mail.sign(0, 1659), 'f');
        check.is("its sign in the middle", mail.sign(0, 830 + 5), 'a');
        // A word and the next one's article are a piece: one of 4, then 13 or, between fields, 12, and one of 8.
        check.is("its lines", mail.letter(0, 4), 121);
        check.is("its pages", mail.letter(0, 5), 7);
        mail.set(0, 40);
        // 4 13 13, 13 13, 13 12 13; nine times 13 13, 13 13 12, 13 13, 13 13, 13 12 13; and 13 13, 13 13 8.
        check.is("its lines by 40", mail.letter(0, 4), 50);
    }

    static void members() {
        Mail mail = example();
        check.is("members(0)", mail.members(0), 11);
        check.is("members(1)", mail.members(1), 4);
        mail.set(2, 2);
        check.is("members(0) of two", mail.members(0), 3);
        check.is("members(2) of two", mail.members(2), 8);
        mail.unsubscribe(0, true);
        check.is("members(0) without ann", mail.members(0), 10);
        check.fails("members(2)", mail, INDEX, () -> mail.members(2));
        check.fails("members(-1)", mail, INDEX, () -> mail.members(-1));
        Mail many = new Mail();
        for (int i = 0; i < 20; i++) {
            many.addPerson(named(i), i % 2, 0);
        }
        many.set(2, 6);
        check.is("letters of many", many.count(4), 4);
        check.is("members(0) of many", many.members(0), 0x555);
        check.is("members(1) of many", many.members(1), 0xaaa);
        check.is("members(3) of many", many.members(3), 0xaa000);
    }

    static void count() {
        Mail mail = example();
        mail.take("<n>{|<c>||}|b");
        mail.unsubscribe(1, true);
        mail.send();
        mail.set(3, 0);
        mail.pass(30);
        mail.addPerson("eve", 9, 1);
        int[] due = {5, 3, 2, 30, 3, 2, 2, 4, 16, 1, 2, 8, 1, 8, 6};
        for (int what = 0; what <= 14; what++) {
            check.is("count(" + what + ")", mail.count(what), due[what]);
        }
        check.fails("count(15)", mail, ARGUMENT, () -> mail.count(15));
        check.fails("count(-1)", mail, ARGUMENT, () -> mail.count(-1));
    }

    static void setting() {
        Mail mail = new Mail();
        for (int i = 0; i < 6; i++) {
            check.is("setting(" + i + ")", mail.setting(i), FIRST[i]);
        }
        check.fails("setting(6)", mail, INDEX, () -> mail.setting(6));
        check.fails("setting(-1)", mail, INDEX, () -> mail.setting(-1));
    }

    static void ifSet() {
        Mail mail = example();
        mail.take("<n>{/b/c}");
        mail.set(1, 1);
        int[] now = {2, 4, 4, 16};
        int[] single = {4, 4, 4, 16};
        int[] short1 = {1, 1, 1, 4};
        int[] dear = {2, 4, 4, 80};
        int[] narrow = {1, 1, 1, 4};
        int[] longer = {2, 4, 2, 8};
        for (int what = 0; what <= 3; what++) {
            check.is("ifSet as it is", mail.ifSet(1, 1, what), now[what]);
            check.is("ifSet of 2", mail.ifSet(2, 1, what), single[what]);
            check.is("ifSet of 4", mail.ifSet(4, 2, what), short1[what]);
            check.is("ifSet of 5", mail.ifSet(5, 20, what), dear[what]);
            check.is("ifSet of 0", mail.ifSet(0, 5, what), narrow[what]);
            check.is("ifSet of 1", mail.ifSet(1, 3, what), longer[what]);
        }
        mail.send();
        check.is("ifSet of 3", mail.ifSet(3, 0, 0), 2);
        check.is("ifSet of 3 as it is", mail.ifSet(3, 7, 0), 0);
        long before = mail.digest();
        mail.ifSet(3, 0, 1);
        check.is("nothing is changed", mail.digest(), before);
        for (int i = 0; i < 6; i++) {
            int setting = i;
            check.fails("ifSet below", mail, ARGUMENT, () -> mail.ifSet(setting, LEAST[setting] - 1, 0));
            check.fails("ifSet above", mail, ARGUMENT, () -> mail.ifSet(setting, MOST[setting] + 1, 0));
        }
        check.fails("ifSet(0, 5, 4)", mail, ARGUMENT, () -> mail.ifSet(0, 5, 4));
        check.fails("ifSet(0, 5, -1)", mail, ARGUMENT, () -> mail.ifSet(0, 5, -1));
        check.fails("ifSet(6, 5, 0)", mail, INDEX, () -> mail.ifSet(6, 5, 0));
        check.fails("ifSet(-1, 1000, 9)", mail, INDEX, () -> mail.ifSet(-1, 1000, 9));
    }

    static void bestJoin() {
        Mail mail = new Mail();
        for (int i = 0; i < 7; i++) {
            mail.addPerson(named(i), 2, 0);
        }
        mail.take("a");
        check.is("fewest letters, least value", mail.bestJoin(), 4);
        mail.take("a{|||}");
        check.is("joint letters are too long", mail.bestJoin(), 1);
        mail.take("a{|}");
        check.is("joint letters have two pages: 7, 7, 5, 4, 4, 3 pages", mail.bestJoin(), 6);
        mail.take("<n>");
        mail.set(0, 5);
        mail.set(1, 1);
        mail.set(4, 1);
        check.is("two names fit", mail.bestJoin(), 2);
        mail.set(2, 6);
        check.is("whatever is set", mail.bestJoin(), 2);
        for (int i = 0; i < 7; i++) {
            mail.unsubscribe(i, true);
        }
        check.is("for nobody", mail.bestJoin(), 1);
    }

    static void narrowest() {
        Mail mail = new Mail();
        mail.addPerson("ann", 0, 0);
        mail.take("abcdefghijklmnopqrstuvwxyzabcdefghijklmnopqrstuvwxyz");
        check.is("five lines", mail.narrowest(), 11);
        mail.set(1, 1);
        mail.set(4, 9);
        check.is("two pages", mail.narrowest(), 26);
        mail.take("abcdefghijklmnopqrstuvwxyz_abcdefghijklm");
        check.is("one page", mail.narrowest(), 40);
        mail.take("abcdefghijklmnopqrstuvwxyz_abcdefghijklmn");
        check.is("two pages, though not by 41", mail.narrowest(), 21);
        mail.undo();
        mail.set(4, 1);
        check.is("one page is allowed", mail.narrowest(), 40);
        mail.take("a|b");
        check.is("nothing is sent", mail.narrowest(), 5);
        Mail two = new Mail();
        two.addPerson("ann", 0, 0);
        two.addPerson("abcdefgh", 1, 0);
        two.take("<n>");
        two.set(1, 1);
        check.is("as many pages together", two.narrowest(), 8);
        two.set(4, 1);
        check.is("as many letters", two.narrowest(), 8);
    }

    static void readyIn() {
        Mail mail = new Mail();
        mail.addPerson("ann", 0, 0);
        mail.take("a");
        check.is("never written to", mail.readyIn(0), 0);
        mail.send();
        check.is("just written to", mail.readyIn(0), 7);
        mail.pass(3);
        check.is("three days later", mail.readyIn(0), 4);
        mail.set(3, 30);
        check.is("a long pause", mail.readyIn(0), 27);
        mail.set(3, 3);
        check.is("a pause that is over", mail.readyIn(0), 0);
        mail.set(3, 30);
        mail.unsubscribe(0, true);
        check.is("unsubscribed", mail.readyIn(0), -1);
        mail.unsubscribe(0, false);
        mail.take("a{<w>}");
        check.is("without a word", mail.readyIn(0), -1);
        mail.addWord("ink");
        mail.give(0, 0);
        mail.take("|||<w>");
        check.is("reason 4 does not count", mail.readyIn(0), 27);
        mail.set(3, 0);
        check.is("no pause", mail.readyIn(0), 0);
        check.fails("readyIn(1)", mail, INDEX, () -> mail.readyIn(1));
        check.fails("readyIn(-1)", mail, INDEX, () -> mail.readyIn(-1));
    }

    static void share() {
        Mail mail = example();
        check.is("all", mail.share(), 1.0);
        mail.take("<n>{|||}");
        check.is("one of four", mail.share(), 0.25);
        mail.unsubscribe(2, true);
        check.is("none", mail.share(), 0.0);
        mail.set(2, 1);
        check.is("three of four", mail.share(), 0.75);
        mail.addPerson("eve", 1, 1);
        mail.addPerson("fay", 1, 1);
        mail.unsubscribe(4, true);
        check.is("four of six", mail.share(), 4.0 / 6.0);
    }

    static void digest() {
        check.is("digest() of a new object", new Mail().digest(), digestByHand(new Mail()));
        Mail mail = example();
        mail.take("<g>_<n>{_<w>}");
        mail.pass(9);
        mail.send();
        mail.addPerson("eve", 1, 1);
        mail.give(4, 1);
        mail.type("a*");
        check.is("digest()", mail.digest(), digestByHand(mail));
    }

    static void digestOfEachShare() {
        for (int all = 1; all <= 20; all++) {
            for (int out = 0; out <= all; out++) {
                Mail shares = new Mail();
                for (int i = 0; i < all; i++) {
                    shares.addPerson("a", 0, 0);
                }
                for (int i = 0; i < out; i++) {
                    shares.unsubscribe(i, true);
                }
                check.is("digest() of " + (all - out) + " of " + all, shares.digest(), digestByHand(shares));
            }
        }
    }

    /** The digest put together from the other calls; the buffer is read by taking it out and typing it again. */
    private static long digestByHand(Mail mail) {
        long hash = 2377;
        for (int what = 0; what <= 14; what++) {
            hash = 31 * hash + mail.count(what);
        }
        for (int setting = 0; setting <= 5; setting++) {
            hash = 31 * hash + mail.setting(setting);
        }
        for (int i = 0; i < mail.count(0); i++) {
            for (int what = 0; what <= 8; what++) {
                hash = 31 * hash + mail.person(i, what);
            }
            for (char sign : mail.nameOf(i).toCharArray()) {
                hash = 31 * hash + sign;
            }
            hash = 31 * hash + mail.readyIn(i);
        }
        for (int i = 0; i < mail.count(1); i++) {
            for (int what = 0; what <= 17; what = what == 3 ? 10 : what + 1) {
                hash = 31 * hash + mail.word(i, what);
            }
        }
        for (int i = 0; i < mail.count(4); i++) {
            for (int what = 0; what <= 7; what++) {
                hash = 31 * hash + mail.letter(i, what);
            }
            hash = 31 * hash + mail.members(i);
            for (char sign : mail.text(i).toCharArray()) {
                hash = 31 * hash + sign;
            }
        }
        hash = 31 * hash + mail.bestJoin();
        hash = 31 * hash + mail.narrowest();
        hash = 31 * hash + Double.doubleToLongBits(mail.share());
        int length = mail.clearBuffer();
        String buffer = length == 0 ? "" : "a*";
        mail.type(buffer);
        hash = 31 * hash + buffer.length();
        for (char sign : buffer.toCharArray()) {
            hash = 31 * hash + sign;
        }
        return hash;
    }
}
