/** "What it is": an object is used for at most 512 calls, so each of the 512 is answered as the promises say. */
public final class CallsTest {
    private static final Check check = new Check();

    public static void main(String[] args) {
        Tests.run(CallsTest.class, check);
    }

    private interface Answer {
        double of(Mail mail);
    }

    /** ann with some ink, a letter, and its text typed again: and then so many idle calls that 511 are made. */
    private static Mail after511(String typed) {
        Mail mail = new Mail();
        mail.addPerson("ann", 3, 1);
        mail.addWord("ink*");
        mail.give(0, 0);
        mail.take("<n>_<w>");
        mail.pass(9);
        mail.type(typed);
        while (mail.calls() < Mail.MOST_CALLS - 1) {
            mail.setting(0);
        }
        return mail;
    }

    private static void last(String what, String typed, Answer answer, double due) {
        Mail mail = after511(typed);
        check.is("the 512th call, " + what, answer.of(mail), due);
        check.is("calls", mail.calls(), 512);
    }

    static void eachChangeHoldsAsThe512thCall() {
        last("addPerson", "bob", mail -> mail.addPerson(0, 0), 1);
        last("addWord", "pen", Mail::addWord, 1);
        last("take", "<n><c>", Mail::take, 2);
        last("move", "", mail -> mail.move(0, 0), 3);
        last("give", "", mail -> mail.give(0, -1), 0);
        last("unsubscribe", "", mail -> mail.unsubscribe(0, true), 1);
        last("set", "", mail -> mail.set(5, 1), 4);
        last("send", "", Mail::send, 1);
        last("pass", "", mail -> mail.pass(1), 10);
        last("append", "ab", mail -> mail.append('c'), 3);
        last("clearBuffer", "ab", Mail::clearBuffer, 2);
        last("firstError", "a*b", mail -> mail.firstError(1), 2);
        last("undo", "", Mail::undo, 4);
    }

    static void eachQuestionHoldsAsThe512thCall() {
        last("person", "", mail -> mail.person(0, 2), 1);
        last("name", "", mail -> mail.name(0, 1), 'n');
        last("word", "", mail -> mail.word(0, 3), 4);
        last("letter", "", mail -> mail.letter(0, 3), 12);
        last("sign", "", mail -> mail.sign(0, 11), 'k');
        last("members", "", mail -> mail.members(0), 1);
        last("count", "", mail -> mail.count(3), 9);
        last("setting", "", mail -> mail.setting(0), 20);
        last("ifSet", "", mail -> mail.ifSet(5, 7, 3), 7);
        last("bestJoin", "", Mail::bestJoin, 1);
        last("narrowest", "", Mail::narrowest, 5);
        last("readyIn", "", mail -> mail.readyIn(0), 0);
        last("share", "", Mail::share, 1.0);
    }

    static void theDigestHoldsAsThe512thCall() {
        Mail late = after511("ab");
        Mail early = new Mail();
        early.addPerson("ann", 3, 1);
        early.addWord("ink*");
        early.give(0, 0);
        early.take("<n>_<w>");
        early.pass(9);
        early.type("ab");
        check.is("digest", late.digest(), early.digest());
        check.is("calls", late.calls(), 512);
    }

    static void anExceptionHoldsAsThe512thCall() {
        Mail mail = after511("");
        check.refuses("move(1, 20)", Check.INDEX, () -> mail.move(1, 20));
        check.is("calls", mail.calls(), 512);
    }

    static void allCallsCanBeChanges() {
        Mail mail = new Mail();
        for (int i = 1; i <= Mail.MOST_CALLS; i++) {
            check.is("pass", mail.pass(1), i);
        }
    }

    static void allCallsCanBeCharacters() {
        Mail mail = new Mail();
        for (int i = 0; i < Mail.MOST_CALLS; i++) {
            int place = i % 61;
            if (place < 60) {
                check.is("append", mail.append('a'), place + 1);
            } else {
                check.is("clearBuffer", mail.clearBuffer(), 60);
            }
        }
    }

    static void allCallsCanBeDigests() {
        Mail mail = new Mail();
        long first = mail.digest();
        while (mail.calls() < Mail.MOST_CALLS) {
            check.is("digest", mail.digest(), first);
        }
    }

    static void allCallsCanThrow() {
        Mail mail = new Mail();
        while (mail.calls() < Mail.MOST_CALLS) {
            check.refuses("undo", Check.STATE, mail::undo);
        }
    }

    static void changesAndUndoCanGoOn() {
        Mail mail = new Mail();
        while (mail.calls() < Mail.MOST_CALLS) {
            check.is("pass", mail.pass(100), 100);
            check.is("undo", mail.undo(), 0);
        }
    }

    static void lettersCanBeSentInAllCalls() {
        Mail mail = new Mail();
        mail.addPerson("a", 0, 0);
        mail.take("||||||||");
        mail.set(3, 0);
        mail.set(4, 9);
        mail.set(5, 20);
        int sent = 0;
        while (mail.calls() < Mail.MOST_CALLS - 4) {
            check.is("send", mail.send(), 1);
            sent++;
        }
        check.is("letters so far", mail.count(9), sent);
        check.is("pages so far", mail.count(10), 9 * sent);
        check.is("postage so far", mail.count(11), 180 * sent);
        check.is("the person's letters", mail.person(0, 6), sent);
    }
}
