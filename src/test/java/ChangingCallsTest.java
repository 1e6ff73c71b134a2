/** Promises 1 to 14: the edges of each sentence, a test of its own for each. */
public final class ChangingCallsTest {
    private static final int NONE = HouseholdMail.NONE;
    private static final int FAR = Check.FAR;
    private static final int DEEP = Check.DEEP;
    private static final Check check = new Check();

    public static void main(String[] args) {
        Tests.run(ChangingCallsTest.class, check);
    }

    private static Mail persons(int number) {
        return new Mail().addPersons(number, 0);
    }

    private static Mail words(int number) {
        Mail mail = new Mail();
        for (int i = 0; i < number; i++) {
            mail.addWord("w");
        }
        return mail;
    }

    /** 100 days a call, to the day 9900. */
    private static Mail onDay9900() {
        Mail mail = new Mail();
        for (int i = 0; i < 99; i++) {
            mail.pass(100);
        }
        return mail;
    }

    // ---- promise 1: a new object

    static void promise01NoneIsMinusOne() {
        check.is("NONE", HouseholdMail.NONE, -1);
    }

    static void promise01NothingIsCounted() {
        Mail mail = new Mail();
        for (int what = 0; what <= 14; what++) {
            check.is("count(" + what + ")", mail.count(what), 0);
        }
    }

    static void promise01WithoutPersonsAndWords() {
        Mail mail = new Mail();
        check.index("person(0, 0)", mail, () -> mail.person(0, 0));
        check.index("name(0, 0)", mail, () -> mail.name(0, 0));
        check.index("readyIn(0)", mail, () -> mail.readyIn(0));
        check.index("word(0, 0)", mail, () -> mail.word(0, 0));
        check.index("letter(0, 0)", mail, () -> mail.letter(0, 0));
        check.index("sign(0, 0)", mail, () -> mail.sign(0, 0));
        check.index("members(0)", mail, () -> mail.members(0));
    }

    static void promise01WithAnEmptyLetter() {
        Mail mail = new Mail();
        check.is("items", mail.count(13), 0);
        check.state("send", mail, mail::send);
    }

    static void promise01WithAnEmptyBuffer() {
        Mail mail = new Mail();
        check.is("clearBuffer", mail.clearBuffer(), 0);
        check.argument("addPerson", mail, () -> mail.addPerson(0, 0));
        check.argument("addWord", mail, mail::addWord);
        check.argument("take", mail, mail::take);
    }

    static void promise01WithoutASavedState() {
        Mail mail = new Mail();
        check.state("undo", mail, mail::undo);
    }

    static void promise01ObjectsAreApart() {
        Mail other = new Mail();
        long before = other.digest();
        Mail mail = persons(3);
        mail.addWord("ink");
        mail.give(0, 0);
        mail.take("<n>");
        mail.send();
        mail.set(0, 5);
        mail.type("abc");
        check.is("the other one's digest", other.digest(), before);
        check.is("a new one's digest", new Mail().digest(), before);
    }

    // ---- promise 2: addPerson

    static void promise02AddressIs0To19() {
        Mail mail = new Mail().type("ann");
        check.argument("the address -1", mail, () -> mail.addPerson(-1, 0));
        check.argument("the address 20", mail, () -> mail.addPerson(20, 0));
        check.argument("a far address", mail, () -> mail.addPerson(FAR, 0));
        check.argument("a deep address", mail, () -> mail.addPerson(DEEP, 0));
        check.is("the address 0", mail.addPerson(0, 0), 0);
        check.is("the address 19", mail.addPerson("bob", 19, 0), 1);
    }

    static void promise02FormIs0To2() {
        Mail mail = new Mail().type("ann");
        check.argument("the form -1", mail, () -> mail.addPerson(0, -1));
        check.argument("the form 3", mail, () -> mail.addPerson(0, 3));
        check.argument("a far form", mail, () -> mail.addPerson(0, FAR));
        check.argument("a deep form", mail, () -> mail.addPerson(0, DEEP));
        check.is("the form 0", mail.addPerson(0, 0), 0);
        check.is("the form 2", mail.addPerson("bob", 0, 2), 1);
    }

    static void promise02WithTheNameInTheBuffer() {
        Mail mail = new Mail();
        mail.addPerson("b", 0, 0);
        mail.addPerson("abcdefgh", 0, 0);
        check.is("the first name", mail.nameOf(0), "b");
        check.is("the second name", mail.nameOf(1), "abcdefgh");
    }

    static void promise02TheBufferIsACompleteName() {
        for (String text : new String[] {"", "abcdefghi", "a*", "*", "a_", "a.", "A", "1", "<n>", "{a}"}) {
            Mail mail = new Mail().type(text);
            check.argument("addPerson of " + text, mail, () -> mail.addPerson(0, 0));
        }
    }

    static void promise02WithoutAWord() {
        Mail mail = words(1);
        mail.addPerson("ann", 0, 0);
        check.is("the word", mail.person(0, 3), NONE);
        check.is("the word's persons", mail.word(0, 2), 0);
    }

    static void promise02ClearsTheBuffer() {
        Mail mail = persons(1);
        check.is("the buffer", mail.clearBuffer(), 0);
        check.argument("addPerson at once again", mail, () -> mail.addPerson(0, 0));
    }

    static void promise02IsUndoable() {
        Mail mail = persons(1);
        check.is("saved states", mail.count(14), 1);
        check.is("undo", mail.undo(), 0);
        check.is("persons", mail.count(0), 0);
    }

    static void promise02ReturnsTheNumber() {
        Mail mail = new Mail();
        for (int i = 0; i < 20; i++) {
            check.is("addPerson", mail.addPerson("p", i, 0), i);
        }
    }

    static void promise02TwentyPersonsAreThere() {
        Mail mail = persons(20).type("p");
        check.state("a 21st", mail, () -> mail.addPerson(0, 0));
        mail.undo();
        check.is("a 20th", mail.addPerson(0, 0), 19);
    }

    static void promise02TheArgumentComesFirst() {
        Mail mail = persons(20);
        check.argument("no name", mail, () -> mail.addPerson(0, 0));
        mail.type("p");
        check.argument("a bad address", mail, () -> mail.addPerson(20, 0));
        check.argument("a bad form", mail, () -> mail.addPerson(0, 3));
    }

    // ---- promise 3: addWord

    static void promise03TheBufferIsACompleteWord() {
        for (String text : new String[] {"", "*", "abcdefghi", "abcdefghi*", "a**", "a*b", "*a", "a_", "A", "<w>"}) {
            Mail mail = new Mail().type(text);
            check.argument("addWord of " + text, mail, mail::addWord);
        }
    }

    static void promise03TheShortestWords() {
        Mail mail = new Mail();
        check.is("addWord of a", mail.addWord("a"), 0);
        check.is("addWord of b*", mail.addWord("b*"), 1);
        check.is("letters of a", mail.lettersOf(0), "a");
        check.is("letters of b*", mail.lettersOf(1), "b");
    }

    static void promise03TheLongestWords() {
        Mail mail = new Mail();
        check.is("addWord of abcdefgh", mail.addWord("abcdefgh"), 0);
        check.is("addWord of ijklmnop*", mail.addWord("ijklmnop*"), 1);
        check.is("letters of abcdefgh", mail.lettersOf(0), "abcdefgh");
        check.is("letters of ijklmnop*", mail.lettersOf(1), "ijklmnop");
    }

    static void promise03ClearsTheBuffer() {
        Mail mail = words(1);
        check.is("the buffer", mail.clearBuffer(), 0);
        check.argument("addWord at once again", mail, mail::addWord);
    }

    static void promise03IsUndoable() {
        Mail mail = words(1);
        check.is("saved states", mail.count(14), 1);
        check.is("undo", mail.undo(), 0);
        check.is("words", mail.count(1), 0);
    }

    static void promise03ReturnsTheNumber() {
        Mail mail = new Mail();
        for (int i = 0; i < 10; i++) {
            check.is("addWord", mail.addWord("w"), i);
        }
    }

    static void promise03TenWordsAreThere() {
        Mail mail = words(10).type("w*");
        check.state("an 11th", mail, mail::addWord);
        mail.undo();
        check.is("a 10th", mail.addWord(), 9);
        check.is("its plural", mail.word(9, 1), 1);
    }

    static void promise03TheArgumentComesFirst() {
        Mail mail = words(10);
        check.argument("no word", mail, mail::addWord);
        mail.type("w_");
        check.argument("a bad word", mail, mail::addWord);
    }

    // ---- promise 4: take

    static void promise04TheBufferIsACompleteLetter() {
        for (String text : new String[] {"", "<", "<n", "{", "{}", "{a", "{<n>", "a}", "a*", "A", "{{a}}", "<x>"}) {
            Mail mail = new Mail().type(text);
            check.argument("take of " + text, mail, mail::take);
        }
    }

    static void promise04TakesTheLetter() {
        Mail mail = persons(1);
        mail.take("abc");
        check.is("the text", mail.text(0), "abc");
        mail.take("d");
        check.is("the text of a shorter one", mail.text(0), "d");
        mail.take("{<w>}efgh");
        mail.take("i");
        check.is("nothing of the letter before is left", mail.text(0), "i");
        check.is("no reason of it is left", mail.person(0, 8), 0);
    }

    static void promise04ClearsTheBuffer() {
        Mail mail = new Mail();
        mail.take("a");
        check.is("the buffer", mail.clearBuffer(), 0);
        check.argument("take at once again", mail, mail::take);
    }

    static void promise04IsUndoable() {
        Mail mail = new Mail();
        mail.take("a");
        mail.take("<n>b");
        check.is("undo", mail.undo(), 1);
        check.is("items", mail.count(13), 1);
        check.is("undo", mail.undo(), 0);
        check.is("items", mail.count(13), 0);
    }

    static void promise04ReturnsNoFields() {
        check.is("take", new Mail().take("nwgc{a}"), 0);
    }

    static void promise04ReturnsFields() {
        check.is("take", new Mail().take("<n>"), 1);
        check.is("take", new Mail().take("<n><g><w><c>"), 4);
        check.is("take of the same fields", new Mail().take("<n><n>"), 2);
    }

    static void promise04ReturnsFieldsInJointParts() {
        check.is("take", new Mail().take("{<n>}"), 1);
        check.is("take", new Mail().take("<g>{a<n>}{<w>}<c>"), 4);
    }

    static void promise04ReturnsTheMostFields() {
        check.is("take of 20 fields", new Mail().take("<c>".repeat(20)), 20);
        check.is("take of 19 fields in a joint part", new Mail().take("{" + "<c>".repeat(19) + "}"), 19);
    }

    // ---- promise 5: move

    static void promise05PersonIsThere() {
        Mail mail = persons(3);
        check.is("move of the first", mail.move(0, 1), 0);
        check.is("move of the last", mail.move(2, 1), 0);
        check.index("move(-1, 0)", mail, () -> mail.move(-1, 0));
        check.index("move(3, 0)", mail, () -> mail.move(3, 0));
        check.index("move(far, 0)", mail, () -> mail.move(FAR, 0));
        check.index("move(deep, 0)", mail, () -> mail.move(DEEP, 0));
    }

    static void promise05WithoutPersons() {
        Mail mail = new Mail();
        check.index("move(0, 0)", mail, () -> mail.move(0, 0));
    }

    static void promise05TheLastOf20Persons() {
        Mail mail = persons(20);
        check.is("move(19, 5)", mail.move(19, 5), 0);
        check.index("move(20, 5)", mail, () -> mail.move(20, 5));
    }

    static void promise05AddressIs0To19() {
        Mail mail = persons(1);
        check.is("move to 19", mail.move(0, 19), 0);
        check.is("the address", mail.person(0, 1), 19);
        check.is("move to 0", mail.move(0, 0), 19);
        check.is("the address", mail.person(0, 1), 0);
        check.argument("move to -1", mail, () -> mail.move(0, -1));
        check.argument("move to 20", mail, () -> mail.move(0, 20));
        check.argument("move far", mail, () -> mail.move(0, FAR));
        check.argument("move deep", mail, () -> mail.move(0, DEEP));
    }

    static void promise05ReturnsThePreviousAddress() {
        Mail mail = persons(1);
        check.is("move", mail.move(0, 7), 0);
        check.is("move", mail.move(0, 8), 7);
        check.is("move to the same", mail.move(0, 8), 8);
    }

    static void promise05MovesThePersonAlone() {
        Mail mail = persons(3);
        mail.move(1, 4);
        check.is("the address before", mail.person(0, 1), 0);
        check.is("the address behind", mail.person(2, 1), 0);
    }

    static void promise05IsUndoable() {
        Mail mail = persons(1);
        mail.move(0, 4);
        check.is("undo", mail.undo(), 1);
        check.is("the address", mail.person(0, 1), 0);
    }

    static void promise05ThePersonComesFirst() {
        Mail mail = persons(1);
        check.index("move(1, 20)", mail, () -> mail.move(1, 20));
    }

    // ---- promise 6: give

    static void promise06PersonIsThere() {
        Mail mail = words(1).addPersons(3, 0);
        check.is("give to the first", mail.give(0, 0), NONE);
        check.is("give to the last", mail.give(2, 0), NONE);
        check.index("give(-1, 0)", mail, () -> mail.give(-1, 0));
        check.index("give(3, 0)", mail, () -> mail.give(3, 0));
        check.index("give(far, 0)", mail, () -> mail.give(FAR, 0));
        check.index("give(deep, 0)", mail, () -> mail.give(DEEP, 0));
    }

    static void promise06WordIsThereOrNone() {
        Mail mail = words(3).addPersons(1, 0);
        check.is("give of the first", mail.give(0, 0), NONE);
        check.is("give of the last", mail.give(0, 2), 0);
        check.is("give of none", mail.give(0, NONE), 2);
        check.is("give of none again", mail.give(0, NONE), NONE);
        check.index("give(0, -2)", mail, () -> mail.give(0, -2));
        check.index("give(0, 3)", mail, () -> mail.give(0, 3));
        check.index("give(0, far)", mail, () -> mail.give(0, FAR));
        check.index("give(0, deep)", mail, () -> mail.give(0, DEEP));
    }

    static void promise06TheLastOf10Words() {
        Mail mail = words(10).addPersons(1, 0);
        check.is("give(0, 9)", mail.give(0, 9), NONE);
        check.index("give(0, 10)", mail, () -> mail.give(0, 10));
    }

    static void promise06WithoutWords() {
        Mail mail = persons(1);
        check.index("give(0, 0)", mail, () -> mail.give(0, 0));
        check.is("give of none", mail.give(0, NONE), NONE);
    }

    static void promise06WithoutPersons() {
        Mail mail = words(1);
        check.index("give(0, 0)", mail, () -> mail.give(0, 0));
        check.index("give(0, NONE)", mail, () -> mail.give(0, NONE));
    }

    static void promise06GivesToThePersonAlone() {
        Mail mail = words(2).addPersons(3, 0);
        mail.give(1, 1);
        check.is("the word before", mail.person(0, 3), NONE);
        check.is("the word", mail.person(1, 3), 1);
        check.is("the word behind", mail.person(2, 3), NONE);
    }

    static void promise06IsUndoable() {
        Mail mail = words(2).addPersons(1, 0);
        mail.give(0, 1);
        mail.give(0, 0);
        check.is("undo", mail.undo(), 4);
        check.is("the word", mail.person(0, 3), 1);
        mail.undo();
        check.is("the word", mail.person(0, 3), NONE);
    }

    // ---- promise 7: unsubscribe

    static void promise07PersonIsThere() {
        Mail mail = persons(3);
        check.is("the first", mail.unsubscribe(0, true), 1);
        check.is("the last", mail.unsubscribe(2, true), 2);
        check.index("unsubscribe(-1)", mail, () -> mail.unsubscribe(-1, true));
        check.index("unsubscribe(3)", mail, () -> mail.unsubscribe(3, true));
        check.index("unsubscribe(far)", mail, () -> mail.unsubscribe(FAR, false));
        check.index("unsubscribe(deep)", mail, () -> mail.unsubscribe(DEEP, false));
    }

    static void promise07WithoutPersons() {
        Mail mail = new Mail();
        check.index("unsubscribe(0)", mail, () -> mail.unsubscribe(0, true));
    }

    static void promise07ReturnsTheNumberFrom0To20() {
        Mail mail = persons(20);
        check.is("none", mail.unsubscribe(0, false), 0);
        for (int i = 0; i < 20; i++) {
            check.is("one more", mail.unsubscribe(i, true), i + 1);
        }
        for (int i = 0; i < 20; i++) {
            check.is("one less", mail.unsubscribe(i, false), 19 - i);
        }
    }

    static void promise07AgainChangesNothing() {
        Mail mail = persons(2);
        check.is("unsubscribe", mail.unsubscribe(1, true), 1);
        check.is("again", mail.unsubscribe(1, true), 1);
        check.is("subscribe", mail.unsubscribe(1, false), 0);
        check.is("again", mail.unsubscribe(1, false), 0);
        check.is("saved states", mail.count(14), 6);
    }

    static void promise07ChangesThePersonAlone() {
        Mail mail = persons(3);
        mail.unsubscribe(1, true);
        check.is("the one before", mail.person(0, 4), 0);
        check.is("the person", mail.person(1, 4), 1);
        check.is("the one behind", mail.person(2, 4), 0);
    }

    static void promise07IsUndoable() {
        Mail mail = persons(1);
        mail.unsubscribe(0, true);
        check.is("undo", mail.undo(), 1);
        check.is("unsubscribed", mail.person(0, 4), 0);
    }

    // ---- promise 8: set

    static void promise08SettingIs0To5() {
        Mail mail = new Mail();
        check.is("set(0, 5)", mail.set(0, 5), 20);
        check.is("set(5, 5)", mail.set(5, 5), 4);
        check.index("set(-1, 5)", mail, () -> mail.set(-1, 5));
        check.index("set(6, 5)", mail, () -> mail.set(6, 5));
        check.index("set(far, 5)", mail, () -> mail.set(FAR, 5));
        check.index("set(deep, 5)", mail, () -> mail.set(DEEP, 5));
    }

    static void promise08ValueIsInTheRange() {
        int[][] ranges = {{5, 40}, {1, 20}, {1, 6}, {0, 30}, {1, 9}, {1, 20}};
        Mail mail = new Mail();
        for (int i = 0; i < 6; i++) {
            int setting = i;
            int least = ranges[i][0];
            int greatest = ranges[i][1];
            check.argument("below", mail, () -> mail.set(setting, least - 1));
            check.argument("above", mail, () -> mail.set(setting, greatest + 1));
            mail.set(i, least);
            check.is("set from the least", mail.set(i, greatest), least);
            check.is("the greatest", mail.setting(i), greatest);
        }
    }

    static void promise08ReturnsThePreviousValue() {
        Mail mail = new Mail();
        check.is("set", mail.set(3, 0), 7);
        check.is("set", mail.set(3, 30), 0);
        check.is("set to the same", mail.set(3, 30), 30);
    }

    static void promise08IsUndoable() {
        Mail mail = new Mail();
        mail.set(3, 0);
        check.is("undo", mail.undo(), 0);
        check.is("the value", mail.setting(3), 7);
    }

    static void promise08TheSettingComesFirst() {
        Mail mail = new Mail();
        check.index("set(6, 0)", mail, () -> mail.set(6, 0));
        check.index("set(-1, 41)", mail, () -> mail.set(-1, 41));
    }

    // ---- promise 9: send

    static void promise09TheLetterHasNoItems() {
        Mail mail = persons(1);
        check.is("a letter would be sent", mail.count(5), 1);
        check.state("send", mail, mail::send);
        mail.take("a");
        check.is("send of one item", mail.send(), 1);
    }

    static void promise09AJointPartIsAnItem() {
        Mail mail = persons(1);
        mail.take("{a}");
        check.is("send of an empty text", mail.send(), 1);
    }

    static void promise09WithoutPersons() {
        Mail mail = new Mail();
        mail.take("a");
        check.state("send", mail, mail::send);
    }

    static void promise09NobodyIsReady() {
        Mail mail = persons(2);
        mail.take("a");
        mail.unsubscribe(0, true);
        mail.unsubscribe(1, true);
        check.state("send", mail, mail::send);
        mail.unsubscribe(1, false);
        check.is("send to one", mail.send(), 1);
    }

    static void promise09AllLettersAreTooLong() {
        Mail mail = persons(2);
        mail.take("|||");
        check.state("send of 4 pages", mail, mail::send);
        mail.take("||");
        check.is("send of 3 pages", mail.send(), 1);
    }

    static void promise09OneLetterIsNotTooLong() {
        Mail mail = persons(6);
        mail.set(2, 5);
        mail.take("a{|||}");
        check.is("letters", mail.count(4), 2);
        check.is("send", mail.send(), 1);
        for (int i = 0; i < 5; i++) {
            check.is("letters of " + i, mail.person(i, 6), 0);
            check.is("day of " + i, mail.person(i, 5), NONE);
        }
        check.is("letters of the last one", mail.person(5, 6), 1);
        check.is("day of the last one", mail.person(5, 5), 0);
    }

    static void promise09TwentyLetters() {
        Mail mail = persons(20);
        mail.set(2, 1);
        mail.take("a");
        check.is("send", mail.send(), 20);
        check.is("letters so far", mail.count(9), 20);
        check.is("pages so far", mail.count(10), 20);
        check.is("postage so far", mail.count(11), 80);
        check.is("letters of the last one", mail.person(19, 6), 1);
    }

    static void promise09ThePersonsHadALetterOnThisDay() {
        Mail mail = persons(2);
        mail.take("a");
        mail.pass(3);
        mail.send();
        check.is("day of the first", mail.person(0, 5), 3);
        check.is("day of the second", mail.person(1, 5), 3);
        mail.pass(7);
        check.is("the day stays", mail.person(0, 5), 3);
        mail.send();
        check.is("the latest day", mail.person(0, 5), 10);
        check.is("letters", mail.person(0, 6), 2);
    }

    static void promise09WhoIsNotReadyHasNoLetter() {
        Mail mail = persons(2);
        mail.take("a");
        mail.unsubscribe(0, true);
        mail.send();
        check.is("letters of the first", mail.person(0, 6), 0);
        check.is("day of the first", mail.person(0, 5), NONE);
    }

    static void promise09IsUndoable() {
        Mail mail = persons(1);
        mail.take("a");
        mail.send();
        check.is("undo", mail.undo(), 2);
        check.is("letters so far", mail.count(9), 0);
        check.is("pages so far", mail.count(10), 0);
        check.is("postage so far", mail.count(11), 0);
        check.is("letters of the person", mail.person(0, 6), 0);
        check.is("day of the person", mail.person(0, 5), NONE);
    }

    static void promise09OnTheLastDay() {
        Mail mail = onDay9900();
        mail.pass(100);
        mail.addPerson("ann", 0, 0);
        mail.take("a");
        check.is("send", mail.send(), 1);
        check.is("the day", mail.person(0, 5), 10000);
    }

    // ---- promise 10: pass

    static void promise10DaysAre1To100() {
        Mail mail = new Mail();
        check.is("pass(1)", mail.pass(1), 1);
        check.is("pass(100)", mail.pass(100), 101);
        check.argument("pass(0)", mail, () -> mail.pass(0));
        check.argument("pass(101)", mail, () -> mail.pass(101));
        check.argument("pass(-1)", mail, () -> mail.pass(-1));
        check.argument("pass(far)", mail, () -> mail.pass(FAR));
        check.argument("pass(deep)", mail, () -> mail.pass(DEEP));
    }

    static void promise10TheDayIs10000AtMost() {
        Mail mail = onDay9900();
        check.is("pass to the last day", mail.pass(100), 10000);
        check.state("pass(1)", mail, () -> mail.pass(1));
        check.state("pass(100)", mail, () -> mail.pass(100));
    }

    static void promise10TheDayIsNot10001() {
        Mail mail = onDay9900();
        mail.pass(1);
        check.state("pass(100) to 10001", mail, () -> mail.pass(100));
        check.is("pass(99) to 10000", mail.pass(99), 10000);
    }

    static void promise10IsUndoableAsOneCall() {
        Mail mail = new Mail();
        mail.pass(100);
        check.is("saved states", mail.count(14), 1);
        check.is("undo", mail.undo(), 0);
        check.is("the day", mail.count(3), 0);
    }

    static void promise10TheArgumentComesFirst() {
        Mail mail = onDay9900();
        mail.pass(100);
        check.argument("pass(0)", mail, () -> mail.pass(0));
        check.argument("pass(101)", mail, () -> mail.pass(101));
    }

    // ---- promise 11: append

    static void promise11CodeIs33To126() {
        Mail mail = new Mail();
        check.argument("append(32)", mail, () -> mail.append(32));
        check.argument("append(127)", mail, () -> mail.append(127));
        check.argument("append(0)", mail, () -> mail.append(0));
        check.argument("append(-1)", mail, () -> mail.append(-1));
        check.argument("append(far)", mail, () -> mail.append(FAR));
        check.argument("append(deep)", mail, () -> mail.append(DEEP));
        check.is("append(33)", mail.append(33), 1);
        check.is("append(126)", mail.append(126), 2);
    }

    static void promise11EachCodeIsTaken() {
        Mail mail = new Mail();
        for (int code = 33; code <= 126; code++) {
            check.is("append(" + code + ")", mail.append(code), 1);
            mail.clearBuffer();
        }
    }

    static void promise11ReturnsTheNewLength() {
        Mail mail = new Mail();
        for (int length = 1; length <= 60; length++) {
            check.is("append", mail.append('a'), length);
        }
    }

    static void promise11TheBufferIsFull() {
        Mail mail = new Mail().type("a".repeat(60));
        check.state("append of a 61st", mail, () -> mail.append('a'));
        mail.clearBuffer();
        check.is("append then", mail.append('a'), 1);
    }

    static void promise11TheArgumentComesFirst() {
        Mail mail = new Mail().type("a".repeat(60));
        check.argument("append(32)", mail, () -> mail.append(32));
        check.argument("append(127)", mail, () -> mail.append(127));
    }

    static void promise11IsNotUndoable() {
        check.is("saved states", new Mail().type("ab").count(14), 0);
    }

    // ---- promise 12: clearBuffer

    static void promise12OfAnEmptyBuffer() {
        check.is("clearBuffer", new Mail().clearBuffer(), 0);
    }

    static void promise12OfOneCharacter() {
        Mail mail = new Mail().type("a");
        check.is("clearBuffer", mail.clearBuffer(), 1);
        check.is("clearBuffer again", mail.clearBuffer(), 0);
    }

    static void promise12OfAFullBuffer() {
        Mail mail = new Mail().type("a".repeat(60));
        check.is("clearBuffer", mail.clearBuffer(), 60);
        check.is("append then", mail.append('a'), 1);
    }

    static void promise12IsNotUndoable() {
        Mail mail = new Mail().type("a");
        mail.clearBuffer();
        check.is("saved states", mail.count(14), 0);
    }

    // ---- promise 13: firstError

    static void promise13KindIs0To2() {
        Mail mail = new Mail().type("a{");
        check.is("firstError(0)", mail.firstError(0), 1);
        check.is("firstError(1)", mail.firstError(1), 1);
        check.is("firstError(2)", mail.firstError(2), 2);
        check.argument("firstError(-1)", mail, () -> mail.firstError(-1));
        check.argument("firstError(3)", mail, () -> mail.firstError(3));
        check.argument("firstError(far)", mail, () -> mail.firstError(FAR));
        check.argument("firstError(deep)", mail, () -> mail.firstError(DEEP));
    }

    static void promise13OfAnEmptyBufferIs0() {
        for (int kind = 0; kind <= 2; kind++) {
            check.is("firstError(" + kind + ")", new Mail().firstError(kind), 0);
        }
    }

    static void promise13TheFirstCharacterIsTheError() {
        for (int kind = 0; kind <= 2; kind++) {
            check.is("firstError(" + kind + ")", new Mail().type("!a").firstError(kind), 0);
        }
    }

    static void promise13OfAFullBuffer() {
        Mail good = new Mail().type("a".repeat(60));
        check.is("as a name", good.firstError(0), 8);
        check.is("as a word", good.firstError(1), 8);
        check.is("as a letter", good.firstError(2), 60);
        check.is("with an error at the end", new Mail().type("a".repeat(59) + "}").firstError(2), 59);
    }

    static void promise13ChangesNothing() {
        Mail mail = new Mail().type("a}");
        long before = mail.digest();
        for (int kind = 0; kind <= 2; kind++) {
            mail.firstError(kind);
        }
        check.is("the digest", mail.digest(), before);
    }

    // ---- promise 14: undo

    static void promise14WithoutASavedState() {
        Mail mail = persons(1);
        check.is("undo", mail.undo(), 0);
        check.state("undo again", mail, mail::undo);
    }

    static void promise14ReturnsHowManyAreLeft() {
        Mail mail = persons(7);
        for (int left = 5; left >= 0; left--) {
            check.is("undo", mail.undo(), left);
            check.is("saved states", mail.count(14), left);
        }
        check.state("undo of the first person", mail, mail::undo);
        check.is("persons", mail.count(0), 1);
    }

    static void promise14DropsTheStateItRestores() {
        Mail mail = new Mail();
        mail.pass(1);
        mail.pass(2);
        mail.undo();
        check.is("the day", mail.count(3), 1);
        mail.undo();
        check.is("the day", mail.count(3), 0);
    }
}
