/** Terms, "Undo": each sentence's edges. */
public final class UndoTest {
    private static final Check check = new Check();

    public static void main(String[] args) {
        Tests.run(UndoTest.class, check);
    }

    private interface Change {
        void on(Mail mail);
    }

    /** ann and bob at 0, cyd at 1, with words, a letter that was sent on the day 5, and room for two states more. */
    private static Mail sent() {
        Mail mail = new Mail();
        mail.addWord("egg");
        mail.addWord("pens*");
        mail.addPerson("ann", 0, 0);
        mail.addPerson("bob", 0, 1);
        mail.addPerson("cyd", 1, 2);
        mail.give(0, 0);
        mail.give(1, 1);
        mail.give(2, 1);
        mail.take("<n>_<w>");
        mail.pass(5);
        mail.send();
        mail.set(3, 0);
        makeRoom(mail);
        return mail;
    }

    /** Two calls that change nothing, taken back, so that two states can be saved and none is dropped. */
    private static void makeRoom(Mail mail) {
        mail.set(0, 20);
        mail.set(0, 20);
        mail.undo();
        mail.undo();
    }

    /** The change saves one state, and undo brings all back to what it was before it. */
    private static void undoes(String what, Change change) {
        Mail mail = sent();
        long before = mail.digest();
        int saved = mail.count(14);
        change.on(mail);
        check.is("saved states behind " + what, mail.count(14), saved + 1);
        check.is("undo of " + what, mail.undo(), saved);
        check.is("the digest behind undo of " + what, mail.digest(), before);
    }

    /** The call saves nothing, so that undo takes back what was done before it. */
    private static void savesNothing(String what, Change call) {
        Mail mail = sent();
        long before = mail.digest();
        int saved = mail.count(14);
        mail.pass(3);
        call.on(mail);
        check.is("saved states behind " + what, mail.count(14), saved + 1);
        mail.undo();
        mail.clearBuffer();
        check.is("the digest behind undo over " + what, mail.digest(), before);
    }

    // ---- which calls save a state

    static void addPersonIsUndone() {
        undoes("addPerson", mail -> mail.addPerson("dan", 19, 2));
    }

    static void addWordIsUndone() {
        undoes("addWord", mail -> mail.addWord("ink"));
    }

    static void takeIsUndone() {
        undoes("take", mail -> mail.take("b{<c>}|"));
        undoes("take of a longer letter", mail -> mail.take("a".repeat(60)));
        undoes("take of a shorter letter", mail -> mail.take("a"));
    }

    static void takeOfTheSameIsUndone() {
        undoes("take of the same", mail -> mail.take("<n>_<w>"));
    }

    static void moveIsUndone() {
        undoes("move", mail -> mail.move(0, 19));
    }

    static void moveToTheSameIsUndone() {
        undoes("move to the same", mail -> mail.move(0, mail.person(0, 1)));
    }

    static void giveIsUndone() {
        undoes("give", mail -> mail.give(0, 1));
        undoes("give of none", mail -> mail.give(0, HouseholdMail.NONE));
    }

    static void giveOfTheSameIsUndone() {
        undoes("give of the same", mail -> mail.give(0, mail.person(0, 3)));
    }

    static void unsubscribeIsUndone() {
        undoes("unsubscribe", mail -> mail.unsubscribe(0, true));
    }

    static void unsubscribeOfTheSameIsUndone() {
        undoes("unsubscribe of the same", mail -> mail.unsubscribe(0, false));
    }

    static void setIsUndone() {
        int[] values = {5, 1, 1, 30, 9, 20};
        for (int i = 0; i < 6; i++) {
            int setting = i;
            undoes("set of " + i, mail -> mail.set(setting, values[setting]));
        }
    }

    static void setToTheSameIsUndone() {
        for (int i = 0; i < 6; i++) {
            int setting = i;
            undoes("set of " + i + " to the same", mail -> mail.set(setting, mail.setting(setting)));
        }
    }

    static void sendIsUndone() {
        undoes("send", Mail::send);
    }

    static void passIsUndoneAsOneCall() {
        undoes("pass(1)", mail -> mail.pass(1));
        undoes("pass(100)", mail -> mail.pass(100));
    }

    static void theOtherCallsOfTextsSaveNothing() {
        savesNothing("append", mail -> mail.append('a'));
        savesNothing("clearBuffer", Mail::clearBuffer);
        savesNothing("firstError", mail -> mail.firstError(2));
    }

    static void callsThatTellWhatThereIsSaveNothing() {
        savesNothing("person", mail -> mail.person(0, 8));
        savesNothing("name", mail -> mail.name(0, 0));
        savesNothing("word", mail -> mail.word(0, 0));
        savesNothing("letter", mail -> mail.letter(0, 0));
        savesNothing("sign", mail -> mail.sign(0, 0));
        savesNothing("members", mail -> mail.members(0));
        savesNothing("count", mail -> mail.count(0));
        savesNothing("setting", mail -> mail.setting(0));
    }

    static void callsThatTellWhatWouldBeSaveNothing() {
        savesNothing("ifSet", mail -> mail.ifSet(0, 5, 0));
        savesNothing("bestJoin", Mail::bestJoin);
        savesNothing("narrowest", Mail::narrowest);
        savesNothing("readyIn", mail -> mail.readyIn(0));
        savesNothing("share", Mail::share);
        savesNothing("digest", Mail::digest);
    }

    static void aCallThatThrowsSavesNothing() {
        savesNothing("addPerson", mail -> check.refuses("addPerson", Check.ARGUMENT, () -> mail.addPerson(0, 0)));
        savesNothing("addWord", mail -> check.refuses("addWord", Check.ARGUMENT, mail::addWord));
        savesNothing("take", mail -> check.refuses("take", Check.ARGUMENT, mail::take));
        savesNothing("move", mail -> check.refuses("move", Check.ARGUMENT, () -> mail.move(0, 20)));
        savesNothing("give", mail -> check.refuses("give", Check.INDEX, () -> mail.give(0, 9)));
        savesNothing("unsubscribe", mail -> check.refuses("unsubscribe", Check.INDEX, () -> mail.unsubscribe(3, true)));
        savesNothing("set", mail -> check.refuses("set", Check.ARGUMENT, () -> mail.set(0, 4)));
        savesNothing("pass", mail -> check.refuses("pass", Check.ARGUMENT, () -> mail.pass(0)));
        savesNothing("append", mail -> check.refuses("append", Check.ARGUMENT, () -> mail.append(32)));
    }

    static void aSendThatThrowsSavesNothing() {
        Mail mail = new Mail().addPersons(1, 0);
        check.state("send", mail, mail::send);
        check.is("undo of the person", mail.undo(), 0);
        check.is("persons", mail.count(0), 0);
    }

    static void undoItselfSavesNothing() {
        Mail mail = new Mail();
        mail.pass(1);
        mail.pass(2);
        check.is("undo()", mail.undo(), 1);
        check.is("undo()", mail.undo(), 0);
        check.state("undo of undo", mail, mail::undo);
        check.is("the day", mail.count(3), 0);
    }

    // ---- what is saved, and what is not

    static void whatIsCountedSoFarIsSaved() {
        Mail mail = new Mail().addPersons(1, 0);
        mail.take("|");
        mail.set(3, 0);
        mail.send();
        mail.pass(2);
        mail.send();
        mail.undo();
        check.is("letters so far", mail.count(9), 1);
        check.is("pages so far", mail.count(10), 2);
        check.is("postage so far", mail.count(11), 8);
        check.is("the person's letters", mail.person(0, 6), 1);
        check.is("the person's day", mail.person(0, 5), 0);
        check.is("the day", mail.count(3), 2);
    }

    static void theBufferIsNotSaved() {
        Mail mail = new Mail();
        mail.pass(1);
        mail.type("ab");
        mail.undo();
        check.is("its length", mail.append('c'), 3);
        mail.addPerson(0, 0);
        check.is("the name", mail.nameOf(0), "abc");
    }

    static void theBufferThatWasTakenDoesNotComeBack() {
        Mail mail = new Mail();
        mail.addPerson("ann", 0, 0);
        mail.undo();
        check.is("behind addPerson", mail.clearBuffer(), 0);
        mail.addWord("ink");
        mail.undo();
        check.is("behind addWord", mail.clearBuffer(), 0);
        mail.take("a");
        mail.undo();
        check.is("behind take", mail.clearBuffer(), 0);
    }

    static void theBufferStaysFull() {
        Mail mail = new Mail();
        mail.pass(1);
        mail.type("a".repeat(60));
        mail.undo();
        check.state("a 61st character", mail, () -> mail.append('a'));
        check.is("its length", mail.clearBuffer(), 60);
    }

    static void theSavedStatesAreNotSaved() {
        Mail mail = new Mail();
        mail.pass(1);
        mail.pass(1);
        mail.pass(1);
        mail.undo();
        mail.undo();
        // Were they saved, the state behind the first pass would bring two more back.
        check.is("saved states", mail.count(14), 1);
        mail.pass(10);
        check.is("undo()", mail.undo(), 1);
        check.is("the day", mail.count(3), 1);
        check.is("undo()", mail.undo(), 0);
        check.is("the day", mail.count(3), 0);
    }

    static void aStateWith20PersonsAnd10WordsComesBack() {
        Mail mail = new Mail();
        for (int i = 0; i < 10; i++) {
            mail.addWord("w" + (char) ('a' + i) + "*");
        }
        mail.addPersons(20, 3);
        mail.give(19, 9);
        makeRoom(mail);
        long before = mail.digest();
        mail.move(19, 4);
        mail.give(19, HouseholdMail.NONE);
        mail.undo();
        mail.undo();
        check.is("the digest", mail.digest(), before);
    }

    static void theStateOfANewObjectComesBack() {
        Mail mail = new Mail();
        long before = mail.digest();
        mail.addPerson("ann", 0, 0);
        mail.addWord("ink");
        mail.take("<n>");
        mail.send();
        for (int i = 0; i < 4; i++) {
            mail.undo();
        }
        check.is("the digest", mail.digest(), before);
    }

    // ---- how many states are saved

    static void withoutAChangeNoneIsSaved() {
        Mail mail = new Mail();
        check.is("saved states", mail.count(14), 0);
        check.state("undo()", mail, mail::undo);
    }

    static void sixStatesAreSaved() {
        Mail mail = new Mail();
        for (int i = 1; i <= 6; i++) {
            mail.pass(i);
            check.is("saved states", mail.count(14), i);
        }
        int[] days = {15, 10, 6, 3, 1, 0};
        for (int i = 0; i < 6; i++) {
            check.is("undo()", mail.undo(), 5 - i);
            check.is("the day", mail.count(3), days[i]);
        }
        check.state("a 7th undo()", mail, mail::undo);
    }

    static void aSeventhStateDropsTheOldest() {
        Mail mail = new Mail();
        for (int i = 1; i <= 7; i++) {
            mail.pass(i);
        }
        check.is("saved states", mail.count(14), 6);
        int[] days = {21, 15, 10, 6, 3, 1};
        for (int i = 0; i < 6; i++) {
            check.is("undo()", mail.undo(), 5 - i);
            check.is("the day", mail.count(3), days[i]);
        }
        check.state("a 7th undo()", mail, mail::undo);
        check.is("the day then", mail.count(3), 1);
    }

    static void aSeventhStateThatChangesNothingDropsTheOldest() {
        Mail mail = new Mail();
        for (int i = 1; i <= 6; i++) {
            mail.pass(i);
        }
        mail.set(0, 20);
        check.is("saved states", mail.count(14), 6);
        for (int i = 0; i < 6; i++) {
            mail.undo();
        }
        check.is("the day then", mail.count(3), 1);
    }

    static void manyStatesDropTheOldestOnes() {
        Mail mail = new Mail();
        for (int i = 1; i <= 100; i++) {
            mail.pass(1);
        }
        for (int i = 0; i < 6; i++) {
            check.is("undo()", mail.undo(), 5 - i);
            check.is("the day", mail.count(3), 99 - i);
        }
        check.state("a 7th undo()", mail, mail::undo);
    }

    static void undoneStatesMakeRoomAgain() {
        Mail mail = new Mail();
        for (int i = 1; i <= 8; i++) {
            mail.pass(1);
        }
        for (int i = 0; i < 4; i++) {
            mail.undo();
        }
        for (int i = 1; i <= 4; i++) {
            mail.pass(10);
            check.is("saved states", mail.count(14), 2 + i);
        }
        mail.pass(10);
        check.is("saved states", mail.count(14), 6);
        int[] days = {44, 34, 24, 14, 4, 3};
        for (int i = 0; i < 6; i++) {
            mail.undo();
            check.is("the day", mail.count(3), days[i]);
        }
        check.state("a 7th undo()", mail, mail::undo);
    }

    static void theLatestStateComesFirst() {
        Mail mail = new Mail();
        mail.set(0, 30);
        mail.set(0, 40);
        mail.undo();
        check.is("the width", mail.setting(0), 30);
        mail.undo();
        check.is("the width", mail.setting(0), 20);
    }
}
