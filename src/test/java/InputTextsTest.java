/** Terms, "Input texts": each sentence's edges. */
public final class InputTextsTest {
    private static final String LETTERS = "abcdefghijklmnopqrstuvwxyz";
    private static final String PLAIN = LETTERS + "_,./|";
    private static final Check check = new Check();

    public static void main(String[] args) {
        Tests.run(InputTextsTest.class, check);
    }

    /** Behind these characters, just the allowed ones are no syntax error. */
    private static void next(int kind, String ahead, String allowed) {
        for (int code = 33; code <= 126; code++) {
            Mail mail = new Mail().type(ahead);
            mail.append(code);
            int due = ahead.length() + (allowed.indexOf(code) >= 0 ? 1 : 0);
            check.is("firstError(" + kind + ") of " + ahead + (char) code, mail.firstError(kind), due);
        }
    }

    private static void error(int kind, String text, int due) {
        check.is("firstError(" + kind + ") of " + text, new Mail().type(text).firstError(kind), due);
    }

    private static void taken(String text) {
        Mail mail = new Mail();
        mail.take(text);
        check.is("the buffer behind take of " + text, mail.clearBuffer(), 0);
        check.is("saved states behind take of " + text, mail.count(14), 1);
    }

    private static void refused(String text) {
        Mail mail = new Mail().type(text);
        check.argument("take of " + text, mail, mail::take);
        check.is("the buffer behind take of " + text, mail.clearBuffer(), text.length());
    }

    // ---- the buffer

    static void theBufferHas60Characters() {
        Mail mail = new Mail().type("a".repeat(59));
        check.is("the 60th", mail.append('b'), 60);
        check.is("its length", mail.clearBuffer(), 60);
    }

    static void theBufferHasNot61Characters() {
        Mail mail = new Mail().type("a".repeat(60));
        check.state("the 61st", mail, () -> mail.append('b'));
        check.is("its length", mail.clearBuffer(), 60);
    }

    static void theBufferIsEmptyAtFirst() {
        Mail mail = new Mail();
        for (int kind = 0; kind <= 2; kind++) {
            check.is("firstError(" + kind + ")", mail.firstError(kind), 0);
        }
        check.is("its length", mail.clearBuffer(), 0);
    }

    static void aLetterOf60CharactersIsTaken() {
        Mail mail = new Mail().addPersons(1, 0);
        mail.take("b".repeat(59) + "c");
        check.is("its items", mail.count(13), 60);
        check.is("its text", mail.text(0), "b".repeat(59) + "c");
    }

    static void aClearedBufferTakesPlaceFor60Again() {
        Mail mail = new Mail().type("a".repeat(60));
        mail.clearBuffer();
        mail.type("b".repeat(60));
        check.state("the 61st", mail, () -> mail.append('b'));
    }

    // ---- kind 0: a name

    static void aNameIsLetters() {
        next(0, "", LETTERS);
        next(0, "m", LETTERS);
        next(0, "mmmmmmm", LETTERS);
    }

    static void aNameEndsBehindThe8thLetter() {
        next(0, "mmmmmmmm", "");
    }

    static void aNameOf8LettersHasNoError() {
        error(0, "mmmmmmmm", 8);
        error(0, "m", 1);
    }

    static void aNameIsNotFollowedByAStar() {
        error(0, "m*", 1);
        error(0, "mmmmmmmm*", 8);
    }

    // ---- kind 1: a word

    static void aWordBeginsWithALetter() {
        next(1, "", LETTERS);
    }

    static void aWordIsLettersAndPossiblyAStar() {
        next(1, "m", LETTERS + "*");
        next(1, "mmmmmmm", LETTERS + "*");
    }

    static void aWordOf8LettersIsFollowedByAStarAlone() {
        next(1, "mmmmmmmm", "*");
    }

    static void aWordEndsBehindItsStar() {
        next(1, "m*", "");
        next(1, "mmmmmmmm*", "");
    }

    // ---- kind 2: a letter

    static void aLetterIsItems() {
        next(2, "", PLAIN + "<{");
        next(2, "a", PLAIN + "<{");
        next(2, "a_,./|", PLAIN + "<{");
        next(2, "<n>", PLAIN + "<{");
        next(2, "{a}", PLAIN + "<{");
    }

    static void aFieldIsOneOfFour() {
        next(2, "<", "ngwc");
        next(2, "{<", "ngwc");
        next(2, "{a<", "ngwc");
    }

    static void aFieldIsClosed() {
        for (char field : "ngwc".toCharArray()) {
            next(2, "<" + field, ">");
            next(2, "{<" + field, ">");
        }
    }

    static void aJointPartBeginsWithAnItem() {
        next(2, "{", PLAIN + "<");
        next(2, "a{", PLAIN + "<");
    }

    static void aJointPartGoesOnOrIsClosed() {
        next(2, "{a", PLAIN + "<}");
        next(2, "{<w>", PLAIN + "<}");
        next(2, "{a_,./|", PLAIN + "<}");
    }

    static void aLetterHasOneItem() {
        for (String text : new String[] {"a", "_", ",", ".", "/", "|", "<n>", "<g>", "<w>", "<c>", "{a}"}) {
            taken(text);
        }
    }

    static void aLetterHasNotNoItems() {
        refused("");
    }

    static void aJointPartHasOneItem() {
        taken("{a}");
        taken("{_}");
        taken("{|}");
        taken("{<n>}");
    }

    static void aJointPartHasSeveralItems() {
        taken("{ab}");
        taken("{<n><w>}");
        taken("{" + "a".repeat(58) + "}");
    }

    static void aJointPartHasNotNoItems() {
        error(2, "{}", 1);
        refused("{}");
        refused("a{}b");
    }

    static void aLetterIsNotCompleteBeforeItsEnd() {
        for (String text : new String[] {"<", "<n", "{", "{a", "{<", "{<n", "{<n>", "a<", "a{b}<", "a{b}{"}) {
            error(2, text, text.length());
            refused(text);
        }
    }

    static void aLetterWithAnErrorIsNotTaken() {
        for (String text : new String[] {"a*", ">", "}", "n>", "a}", "{a}}", "{a{b}}", "<n", "<x>", "<n<", "A"}) {
            refused(text);
        }
    }

    static void aLetterWithAnErrorBeforeAGoodEndIsNotTaken() {
        refused("*a");
        refused("<>a");
        refused("{}a");
        refused("{<n}a>");
    }

    // ---- the first syntax error

    static void theFirstOfSeveralErrorsIsTold() {
        error(0, "a*b*", 1);
        error(0, "**", 0);
        error(1, "a**b", 2);
        error(1, "A*", 0);
        error(2, "ab*c*", 2);
        error(2, "{}a}", 1);
    }

    static void theLastCharacterCanBeTheError() {
        error(0, "mmmmmm!", 6);
        error(1, "mmmmmm*!", 7);
        error(2, "b".repeat(59) + "!", 59);
    }

    static void withoutAnErrorItIsTheLength() {
        error(0, "", 0);
        error(1, "", 0);
        error(2, "", 0);
        error(2, "b".repeat(60), 60);
    }

    static void aTextCanBeOfAnyLength() {
        // Each of these goes on behind the 60th character, though the buffer does not.
        error(2, "b".repeat(59) + "{", 60);
        error(2, "b".repeat(59) + "<", 60);
        error(2, "b".repeat(58) + "<n", 60);
        error(2, "{" + "b".repeat(59), 60);
    }

    static void theKindsAreReadApart() {
        Mail mail = new Mail().type("abcdefghi*");
        check.is("as a name", mail.firstError(0), 8);
        check.is("as a word", mail.firstError(1), 8);
        check.is("as a letter", mail.firstError(2), 9);
    }

    static void aClearedCharacterIsNotRead() {
        Mail mail = new Mail().type("ab*");
        mail.clearBuffer();
        mail.type("ab");
        check.is("as a word", mail.firstError(1), 2);
        mail.addWord();
        check.is("its plural", mail.word(0, 1), 0);
        mail.type("{<n>}");
        mail.clearBuffer();
        mail.type("{<n>");
        check.argument("take of {<n>", mail, mail::take);
    }
}
