/** Terms, "Exceptions": a call that throws changes nothing, and throws what is named first. */
public final class ExceptionsTest {
    private static final Class<?> INDEX = Check.INDEX;
    private static final Class<?> ARGUMENT = Check.ARGUMENT;
    private static final Class<?> STATE = Check.STATE;
    private static final Check check = new Check();

    public static void main(String[] args) {
        Tests.run(ExceptionsTest.class, check);
    }

    private interface Setup {
        Mail make();
    }

    private interface Refused {
        void on(Mail mail);
    }

    /** Two persons, a word, a letter that was just sent to them, 6 saved states, and "ann" in the buffer. */
    private static Mail some() {
        Mail mail = new Mail().addPersons(2, 3);
        mail.addWord("ink");
        mail.give(1, 0);
        mail.take("<n>");
        mail.unsubscribe(1, true);
        mail.pass(4);
        mail.send();
        return mail.type("ann");
    }

    private static Mail full() {
        Mail mail = new Mail();
        for (int i = 0; i < 10; i++) {
            mail.addWord("w");
        }
        return mail.addPersons(20, 0).type("ann");
    }

    private static Mail with(String text) {
        Mail mail = some();
        mail.clearBuffer();
        return mail.type(text);
    }

    private static Mail fullWith(String text) {
        Mail mail = full();
        mail.clearBuffer();
        return mail.type(text);
    }

    private static Mail lastDay() {
        Mail mail = new Mail();
        for (int i = 0; i < 100; i++) {
            mail.pass(100);
        }
        return mail;
    }

    private static Mail noItems() {
        return new Mail().addPersons(8, 0);
    }

    /** The call throws this, and neither the state nor the buffer nor any saved state is changed. */
    private static void refused(String what, Class<?> due, Setup setup, Refused call) {
        Mail mail = setup.make();
        Mail twin = setup.make();
        check.refuses(what, due, () -> call.on(mail));
        check.is("the digest behind " + what, mail.digest(), twin.digest());
        for (int left = mail.count(14); left > 0; left--) {
            check.is("undo behind " + what, mail.undo(), left - 1);
            twin.undo();
            check.is("the digest behind undo behind " + what, mail.digest(), twin.digest());
        }
        check.refuses("one undo more behind " + what, STATE, mail::undo);
    }

    // ---- a call that throws changes nothing

    static void addPersonChangesNothing() {
        refused("addPerson(-1, 0)", ARGUMENT, ExceptionsTest::some, mail -> mail.addPerson(-1, 0));
        refused("addPerson(20, 0)", ARGUMENT, ExceptionsTest::some, mail -> mail.addPerson(20, 0));
        refused("addPerson(0, -1)", ARGUMENT, ExceptionsTest::some, mail -> mail.addPerson(0, -1));
        refused("addPerson(0, 3)", ARGUMENT, ExceptionsTest::some, mail -> mail.addPerson(0, 3));
        refused("addPerson without a name", ARGUMENT, () -> with(""), mail -> mail.addPerson(0, 0));
        refused("addPerson of a word", ARGUMENT, () -> with("a*"), mail -> mail.addPerson(0, 0));
        refused("addPerson of a 21st", STATE, ExceptionsTest::full, mail -> mail.addPerson(0, 0));
    }

    static void addWordChangesNothing() {
        refused("addWord without a word", ARGUMENT, () -> with(""), Mail::addWord);
        refused("addWord of a**", ARGUMENT, () -> with("a**"), Mail::addWord);
        refused("addWord of an 11th", STATE, ExceptionsTest::full, Mail::addWord);
    }

    static void takeChangesNothing() {
        refused("take without a letter", ARGUMENT, () -> with(""), Mail::take);
        refused("take of {a", ARGUMENT, () -> with("{a"), Mail::take);
        refused("take of a*", ARGUMENT, () -> with("a*"), Mail::take);
    }

    static void moveChangesNothing() {
        refused("move(-1, 0)", INDEX, ExceptionsTest::some, mail -> mail.move(-1, 0));
        refused("move(2, 0)", INDEX, ExceptionsTest::some, mail -> mail.move(2, 0));
        refused("move(0, -1)", ARGUMENT, ExceptionsTest::some, mail -> mail.move(0, -1));
        refused("move(0, 20)", ARGUMENT, ExceptionsTest::some, mail -> mail.move(0, 20));
    }

    static void giveChangesNothing() {
        refused("give(-1, 0)", INDEX, ExceptionsTest::some, mail -> mail.give(-1, 0));
        refused("give(2, 0)", INDEX, ExceptionsTest::some, mail -> mail.give(2, 0));
        refused("give(0, -2)", INDEX, ExceptionsTest::some, mail -> mail.give(0, -2));
        refused("give(0, 1)", INDEX, ExceptionsTest::some, mail -> mail.give(0, 1));
    }

    static void unsubscribeChangesNothing() {
        refused("unsubscribe(-1, true)", INDEX, ExceptionsTest::some, mail -> mail.unsubscribe(-1, true));
        refused("unsubscribe(2, false)", INDEX, ExceptionsTest::some, mail -> mail.unsubscribe(2, false));
    }

    static void setChangesNothing() {
        refused("set(-1, 5)", INDEX, ExceptionsTest::some, mail -> mail.set(-1, 5));
        refused("set(6, 5)", INDEX, ExceptionsTest::some, mail -> mail.set(6, 5));
        refused("set(0, 4)", ARGUMENT, ExceptionsTest::some, mail -> mail.set(0, 4));
        refused("set(0, 41)", ARGUMENT, ExceptionsTest::some, mail -> mail.set(0, 41));
    }

    static void sendChangesNothing() {
        refused("send without items", STATE, ExceptionsTest::noItems, Mail::send);
        refused("send to nobody", STATE, ExceptionsTest::some, Mail::send);
    }

    static void passChangesNothing() {
        refused("pass(0)", ARGUMENT, ExceptionsTest::some, mail -> mail.pass(0));
        refused("pass(101)", ARGUMENT, ExceptionsTest::some, mail -> mail.pass(101));
        refused("pass(1) of the last day", STATE, ExceptionsTest::lastDay, mail -> mail.pass(1));
    }

    static void appendChangesNothing() {
        refused("append(32)", ARGUMENT, ExceptionsTest::some, mail -> mail.append(32));
        refused("append(127)", ARGUMENT, ExceptionsTest::some, mail -> mail.append(127));
        refused("append of a 61st", STATE, () -> with("a".repeat(60)), mail -> mail.append('b'));
    }

    static void undoChangesNothing() {
        refused("undo of nothing", STATE, () -> new Mail().type("ann"), Mail::undo);
    }

    static void callsThatOnlyTellChangeNothing() {
        refused("firstError(3)", ARGUMENT, ExceptionsTest::some, mail -> mail.firstError(3));
        refused("person(2, 0)", INDEX, ExceptionsTest::some, mail -> mail.person(2, 0));
        refused("person(0, 9)", ARGUMENT, ExceptionsTest::some, mail -> mail.person(0, 9));
        refused("name(0, 1)", INDEX, ExceptionsTest::some, mail -> mail.name(0, 1));
        refused("word(1, 0)", INDEX, ExceptionsTest::some, mail -> mail.word(1, 0));
        refused("word(0, 4)", ARGUMENT, ExceptionsTest::some, mail -> mail.word(0, 4));
        refused("letter(0, 0)", INDEX, ExceptionsTest::some, mail -> mail.letter(0, 0));
        refused("letter(0, 8)", ARGUMENT, ExceptionsTest::full, mail -> mail.letter(0, 8));
        refused("sign(0, 0)", INDEX, ExceptionsTest::some, mail -> mail.sign(0, 0));
        refused("members(0)", INDEX, ExceptionsTest::some, mail -> mail.members(0));
        refused("count(15)", ARGUMENT, ExceptionsTest::some, mail -> mail.count(15));
        refused("setting(6)", INDEX, ExceptionsTest::some, mail -> mail.setting(6));
        refused("ifSet(6, 5, 0)", INDEX, ExceptionsTest::some, mail -> mail.ifSet(6, 5, 0));
        refused("ifSet(0, 4, 0)", ARGUMENT, ExceptionsTest::some, mail -> mail.ifSet(0, 4, 0));
        refused("ifSet(0, 5, 4)", ARGUMENT, ExceptionsTest::some, mail -> mail.ifSet(0, 5, 4));
        refused("readyIn(2)", INDEX, ExceptionsTest::some, mail -> mail.readyIn(2));
    }

    // ---- of several exceptions the one that is named first

    static void addPersonLooksAtItsArgumentsFirst() {
        refused("a bad address, full", ARGUMENT, ExceptionsTest::full, mail -> mail.addPerson(20, 0));
        refused("a bad form, full", ARGUMENT, ExceptionsTest::full, mail -> mail.addPerson(0, 3));
        refused("no name, full", ARGUMENT, () -> fullWith(""), mail -> mail.addPerson(0, 0));
        refused("a bad name, full", ARGUMENT, () -> fullWith("a*"), mail -> mail.addPerson(0, 0));
    }

    static void addWordLooksAtTheBufferFirst() {
        refused("no word, full", ARGUMENT, () -> fullWith(""), Mail::addWord);
        refused("a bad word, full", ARGUMENT, () -> fullWith("a_"), Mail::addWord);
    }

    static void moveLooksAtThePersonFirst() {
        refused("move(2, 20)", INDEX, ExceptionsTest::some, mail -> mail.move(2, 20));
        refused("move(-1, -1)", INDEX, ExceptionsTest::some, mail -> mail.move(-1, -1));
    }

    static void giveThrowsOneExceptionForBoth() {
        refused("give(2, 1)", INDEX, ExceptionsTest::some, mail -> mail.give(2, 1));
        refused("give(-1, -2)", INDEX, ExceptionsTest::some, mail -> mail.give(-1, -2));
    }

    static void setLooksAtTheSettingFirst() {
        refused("set(6, 0)", INDEX, ExceptionsTest::some, mail -> mail.set(6, 0));
        refused("set(-1, 41)", INDEX, ExceptionsTest::some, mail -> mail.set(-1, 41));
    }

    static void passLooksAtItsArgumentFirst() {
        refused("pass(0) on the last day", ARGUMENT, ExceptionsTest::lastDay, mail -> mail.pass(0));
        refused("pass(101) on the last day", ARGUMENT, ExceptionsTest::lastDay, mail -> mail.pass(101));
        refused("pass(far) on the last day", ARGUMENT, ExceptionsTest::lastDay, mail -> mail.pass(Check.FAR));
    }

    static void appendLooksAtItsArgumentFirst() {
        refused("append(32), full", ARGUMENT, () -> with("a".repeat(60)), mail -> mail.append(32));
        refused("append(127), full", ARGUMENT, () -> with("a".repeat(60)), mail -> mail.append(127));
    }

    static void personLooksAtThePersonFirst() {
        refused("person(2, 9)", INDEX, ExceptionsTest::some, mail -> mail.person(2, 9));
        refused("person(-1, -1)", INDEX, ExceptionsTest::some, mail -> mail.person(-1, -1));
    }

    static void wordLooksAtTheWordFirst() {
        refused("word(1, 4)", INDEX, ExceptionsTest::some, mail -> mail.word(1, 4));
        refused("word(-1, -1)", INDEX, ExceptionsTest::some, mail -> mail.word(-1, -1));
    }

    static void letterLooksAtTheLetterFirst() {
        refused("letter(0, 8)", INDEX, ExceptionsTest::some, mail -> mail.letter(0, 8));
        refused("letter(-1, -1)", INDEX, ExceptionsTest::full, mail -> mail.letter(-1, -1));
    }

    static void ifSetLooksAtTheSettingFirst() {
        refused("ifSet(6, 0, 0)", INDEX, ExceptionsTest::some, mail -> mail.ifSet(6, 0, 0));
        refused("ifSet(-1, 5, 4)", INDEX, ExceptionsTest::some, mail -> mail.ifSet(-1, 5, 4));
        refused("ifSet(6, 0, 4)", INDEX, ExceptionsTest::some, mail -> mail.ifSet(6, 0, 4));
    }

    static void sendThrowsOneExceptionForBoth() {
        refused("send without items and without persons", STATE, Mail::new, Mail::send);
    }
}
