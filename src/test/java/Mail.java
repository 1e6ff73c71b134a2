/**
 * A HouseholdMail whose calls are counted, with helpers for typing texts and reading them.
 * The document promises nothing behind the 512th call, so a test that goes further is wrong itself.
 */
final class Mail {
    static final int MOST_CALLS = 512;

    private final HouseholdMail mail = new HouseholdMail();
    private int calls = 0;

    private HouseholdMail next() {
        if (calls >= MOST_CALLS) {
            throw new AssertionError("a test makes more than 512 calls of one object");
        }
        calls++;
        return mail;
    }

    int calls() {
        return calls;
    }

    // ---- the face

    int addPerson(int address, int form) {
        return next().addPerson(address, form);
    }

    int addWord() {
        return next().addWord();
    }

    int take() {
        return next().take();
    }

    int move(int person, int address) {
        return next().move(person, address);
    }

    int give(int person, int word) {
        return next().give(person, word);
    }

    int unsubscribe(int person, boolean is) {
        return next().unsubscribe(person, is);
    }

    int set(int setting, int value) {
        return next().set(setting, value);
    }

    int send() {
        return next().send();
    }

    int pass(int days) {
        return next().pass(days);
    }

    int append(int code) {
        return next().append(code);
    }

    int clearBuffer() {
        return next().clearBuffer();
    }

    int firstError(int kind) {
        return next().firstError(kind);
    }

    int undo() {
        return next().undo();
    }

    int person(int person, int what) {
        return next().person(person, what);
    }

    int name(int person, int place) {
        return next().name(person, place);
    }

    int word(int word, int what) {
        return next().word(word, what);
    }

    int letter(int letter, int what) {
        return next().letter(letter, what);
    }

    int sign(int letter, int place) {
        return next().sign(letter, place);
    }

    int members(int letter) {
        return next().members(letter);
    }

    int count(int what) {
        return next().count(what);
    }

    int setting(int setting) {
        return next().setting(setting);
    }

    int ifSet(int setting, int value, int what) {
        return next().ifSet(setting, value, what);
    }

    int bestJoin() {
        return next().bestJoin();
    }

    int narrowest() {
        return next().narrowest();
    }

    int readyIn(int person) {
        return next().readyIn(person);
    }

    double share() {
        return next().share();
    }

    long digest() {
        return next().digest();
    }

    // ---- helpers

    Mail type(String text) {
        for (int i = 0; i < text.length(); i++) {
            append(text.charAt(i));
        }
        return this;
    }

    int addPerson(String name, int address, int form) {
        return type(name).addPerson(address, form);
    }

    /** So many persons of one letter, "a" and on, with the form 0. */
    Mail addPersons(int number, int address) {
        for (int i = 0; i < number; i++) {
            addPerson("" + (char) ('a' + i), address, 0);
        }
        return this;
    }

    int addWord(String text) {
        return type(text).addWord();
    }

    int take(String text) {
        return type(text).take();
    }

    String text(int letter) {
        StringBuilder text = new StringBuilder();
        int length = letter(letter, 3);
        for (int i = 0; i < length; i++) {
            text.append((char) sign(letter, i));
        }
        return text.toString();
    }

    String nameOf(int person) {
        StringBuilder text = new StringBuilder();
        int length = person(person, 0);
        for (int i = 0; i < length; i++) {
            text.append((char) name(person, i));
        }
        return text.toString();
    }

    String lettersOf(int word) {
        StringBuilder text = new StringBuilder();
        int length = word(word, 0);
        for (int i = 0; i < length; i++) {
            text.append((char) word(word, 10 + i));
        }
        return text.toString();
    }
}
