/**
 * A mail merge: persons, words, a letter with fields, joint letters for households,
 * lines and pages, postage, days between letters, what would be, and undo.
 */
public final class HouseholdMail {
    public static final int NONE = -1;

    private static final int MAX_PERSONS = 20;
    private static final int MAX_WORDS = 10;
    private static final int MAX_NAME = 8;
    private static final int ADDRESSES = 20;
    private static final int FORMS = 3;
    private static final int MAX_BUFFER = 60;
    private static final int MAX_SAVED = 6;
    private static final int MAX_PASS = 100;
    private static final int LAST_DAY = 10000;
    private static final int MAX_WAIT = 40;
    private static final int MAX_JOINED = 6;
    // The longest text comes from 20 fields "<w>" of 3 characters, each with 6 plural words
    // of 8 letters: 6 * (5 + 8) characters, and 5 signs between them.
    private static final int MAX_TEXT = 1660;
    // The same fields bring the most blanks, 6 for 3 characters; a piece ends at each, and at the end.
    private static final int MAX_PIECES = 121;

    private static final int KIND_NAME = 0;
    private static final int KIND_WORD = 1;
    private static final int KIND_LETTER = 2;

    private static final int SETTINGS = 6;
    private static final int WIDTH = 0;
    private static final int PAGE_LINES = 1;
    private static final int JOINED = 2;
    private static final int PAUSE = 3;
    private static final int PAGES = 4;
    private static final int POSTAGE = 5;
    private static final int[] LEAST = {5, 1, 1, 0, 1, 1};
    private static final int[] MOST = {40, 20, 6, 30, 9, 20};
    private static final int[] FIRST = {20, 5, 4, 7, 3, 4};
    private static final int LEAST_WIDTH = 5;
    private static final int MOST_WIDTH = 40;

    private static final int READY = 0;
    private static final int UNSUBSCRIBED = 1;
    private static final int HAD_ONE = 2;
    private static final int NO_WORD = 3;
    private static final int TOO_LONG = 4;

    private static final int PERSON_LAST = 8;
    private static final int WORD_LAST = 3;
    private static final int WORD_LETTERS = 10;
    private static final int LETTER_LAST = 7;
    private static final int COUNT_LAST = 14;
    private static final int TOTAL_LAST = 3;

    private static final long HASH_START = 2377L;
    private static final long ONE_IN_MANTISSA = 1L << 52;
    private static final int EXPONENT_OF_ONE = 1023;

    private final State now;
    private final History history;
    private final Buffer buffer;
    private final Mailing plan;
    private final Mailing trial;
    private final int[] trialSettings;

    public HouseholdMail() {
        now = new State();
        history = new History();
        buffer = new Buffer();
        Composer composer = new Composer();
        Layout layout = new Layout();
        plan = new Mailing(composer, layout);
        trial = new Mailing(composer, layout);
        trialSettings = new int[SETTINGS];
    }

    // ---- persons, words, the letter

    public int addPerson(int address, int form) throws IllegalArgumentException, IllegalStateException {
        if (!isAddress(address) || form < 0 || form >= FORMS) {
            throw new IllegalArgumentException("no such address or form");
        }
        if (!buffer.isComplete(KIND_NAME)) {
            throw new IllegalArgumentException("the buffer is not a complete name");
        }
        if (now.personCount >= MAX_PERSONS) {
            throw new IllegalStateException("there are 20 persons");
        }
        history.keep(now);
        int number = now.personCount;
        now.persons[number].begin(buffer, address, form);
        now.personCount = number + 1;
        buffer.length = 0;
        return number;
    }

    public int addWord() throws IllegalArgumentException, IllegalStateException {
        if (!buffer.isComplete(KIND_WORD)) {
            throw new IllegalArgumentException("the buffer is not a complete word");
        }
        if (now.wordCount >= MAX_WORDS) {
            throw new IllegalStateException("there are 10 words");
        }
        history.keep(now);
        int number = now.wordCount;
        now.words[number].begin(buffer);
        now.wordCount = number + 1;
        buffer.length = 0;
        return number;
    }

    public int take() throws IllegalArgumentException {
        if (!buffer.isComplete(KIND_LETTER)) {
            throw new IllegalArgumentException("the buffer is not a complete letter");
        }
        history.keep(now);
        now.items.copy(buffer.signs, buffer.length);
        buffer.length = 0;
        return now.items.fieldCount();
    }

    public int move(int person, int address) throws IndexOutOfBoundsException, IllegalArgumentException {
        if (!isPerson(person)) {
            throw new IndexOutOfBoundsException("no such person");
        }
        if (!isAddress(address)) {
            throw new IllegalArgumentException("no such address");
        }
        history.keep(now);
        int previous = now.persons[person].address;
        now.persons[person].address = address;
        return previous;
    }

    public int give(int person, int word) throws IndexOutOfBoundsException {
        if (!isPerson(person)) {
            throw new IndexOutOfBoundsException("no such person");
        }
        if (word != NONE && !isWord(word)) {
            throw new IndexOutOfBoundsException("no such word");
        }
        history.keep(now);
        int previous = now.persons[person].word;
        now.persons[person].word = word;
        return previous;
    }

    public int unsubscribe(int person, boolean is) throws IndexOutOfBoundsException {
        if (!isPerson(person)) {
            throw new IndexOutOfBoundsException("no such person");
        }
        history.keep(now);
        now.persons[person].unsubscribed = is;
        return now.unsubscribedCount();
    }

    public int set(int setting, int value) throws IndexOutOfBoundsException, IllegalArgumentException {
        if (!isSetting(setting)) {
            throw new IndexOutOfBoundsException("no such setting");
        }
        if (!isValue(setting, value)) {
            throw new IllegalArgumentException("the value is out of range");
        }
        history.keep(now);
        int previous = now.settings[setting];
        now.settings[setting] = value;
        return previous;
    }

    // ---- days

    public int send() throws IllegalStateException {
        if (now.items.length == 0) {
            throw new IllegalStateException("the letter has no items");
        }
        plan.prepare(now, now.settings);
        if (plan.sentLetters == 0) {
            throw new IllegalStateException("no letter would be sent");
        }
        history.keep(now);
        for (int i = 0; i < now.personCount; i++) {
            if (plan.reasons[i] == READY) {
                now.persons[i].lastDay = now.day;
                now.persons[i].had++;
            }
        }
        now.lettersSent += plan.sentLetters;
        now.pagesSent += plan.sentPages;
        now.postageSpent += plan.sentPostage;
        return plan.sentLetters;
    }

    public int pass(int days) throws IllegalArgumentException, IllegalStateException {
        if (days < 1 || days > MAX_PASS) {
            throw new IllegalArgumentException("days is not 1 to 100");
        }
        if (now.day + days > LAST_DAY) {
            throw new IllegalStateException("the day would be above 10000");
        }
        history.keep(now);
        now.day += days;
        return now.day;
    }

    // ---- texts

    public int append(int code) throws IllegalArgumentException, IllegalStateException {
        if (code < 33 || code > 126) {
            throw new IllegalArgumentException("code is not 33 to 126");
        }
        if (buffer.length >= MAX_BUFFER) {
            throw new IllegalStateException("the buffer has 60 characters");
        }
        buffer.signs[buffer.length] = code;
        buffer.length++;
        return buffer.length;
    }

    public int clearBuffer() {
        int length = buffer.length;
        buffer.length = 0;
        return length;
    }

    public int firstError(int kind) throws IllegalArgumentException {
        if (kind < KIND_NAME || kind > KIND_LETTER) {
            throw new IllegalArgumentException("kind is not 0 to 2");
        }
        return buffer.firstWrong(kind);
    }

    public int undo() throws IllegalStateException {
        if (history.size == 0) {
            throw new IllegalStateException("there is no saved state");
        }
        history.restore(now);
        return history.size;
    }

    // ---- what there is

    public int person(int person, int what) throws IndexOutOfBoundsException, IllegalArgumentException {
        if (!isPerson(person)) {
            throw new IndexOutOfBoundsException("no such person");
        }
        if (what < 0 || what > PERSON_LAST) {
            throw new IllegalArgumentException("what is not 0 to 8");
        }
        plan.prepare(now, now.settings);
        return personValue(person, what);
    }

    public int name(int person, int place) throws IndexOutOfBoundsException {
        if (!isPerson(person) || place < 0 || place >= now.persons[person].nameLength) {
            throw new IndexOutOfBoundsException("no such person or place");
        }
        return now.persons[person].name[place];
    }

    public int word(int word, int what) throws IndexOutOfBoundsException, IllegalArgumentException {
        if (!isWord(word)) {
            throw new IndexOutOfBoundsException("no such word");
        }
        boolean asksLetter = what >= WORD_LETTERS && what < WORD_LETTERS + MAX_NAME;
        if (!asksLetter && (what < 0 || what > WORD_LAST)) {
            throw new IllegalArgumentException("what is not 0 to 3 or 10 to 17");
        }
        return asksLetter ? now.words[word].codeAt(what - WORD_LETTERS) : wordValue(word, what);
    }

    public int letter(int letter, int what) throws IndexOutOfBoundsException, IllegalArgumentException {
        plan.prepare(now, now.settings);
        if (!plan.has(letter)) {
            throw new IndexOutOfBoundsException("no such letter");
        }
        if (what < 0 || what > LETTER_LAST) {
            throw new IllegalArgumentException("what is not 0 to 7");
        }
        return letterValue(letter, what);
    }

    public int sign(int letter, int place) throws IndexOutOfBoundsException {
        plan.prepare(now, now.settings);
        if (!plan.has(letter) || place < 0 || place >= plan.drafts[letter].textLength) {
            throw new IndexOutOfBoundsException("no such letter or place");
        }
        plan.composer.compose(now, plan.drafts[letter]);
        return plan.composer.text[place];
    }

    public int members(int letter) throws IndexOutOfBoundsException {
        plan.prepare(now, now.settings);
        if (!plan.has(letter)) {
            throw new IndexOutOfBoundsException("no such letter");
        }
        return plan.drafts[letter].mask();
    }

    public int count(int what) throws IllegalArgumentException {
        if (what < 0 || what > COUNT_LAST) {
            throw new IllegalArgumentException("what is not 0 to 14");
        }
        plan.prepare(now, now.settings);
        return countValue(what);
    }

    public int setting(int setting) throws IndexOutOfBoundsException {
        if (!isSetting(setting)) {
            throw new IndexOutOfBoundsException("no such setting");
        }
        return now.settings[setting];
    }

    // ---- what would be; nothing is changed

    public int ifSet(int setting, int value, int what) throws IndexOutOfBoundsException, IllegalArgumentException {
        if (!isSetting(setting)) {
            throw new IndexOutOfBoundsException("no such setting");
        }
        if (!isValue(setting, value) || what < 0 || what > TOTAL_LAST) {
            throw new IllegalArgumentException("value or what is out of range");
        }
        copyToTrial(setting, value);
        trial.prepare(now, trialSettings);
        switch (what) {
            case 0: return trial.sentLetters;
            case 1: return trial.sentPersons;
            case 2: return trial.sentPages;
            default: return trial.sentPostage;
        }
    }

    public int bestJoin() {
        int best = 0;
        int bestPersons = 0;
        int bestPostage = 0;
        for (int joined = 1; joined <= MAX_JOINED; joined++) {
            copyToTrial(JOINED, joined);
            trial.prepare(now, trialSettings);
            boolean more = trial.sentPersons > bestPersons;
            boolean cheaper = trial.sentPersons == bestPersons && trial.sentPostage < bestPostage;
            if (best == 0 || more || cheaper) {
                best = joined;
                bestPersons = trial.sentPersons;
                bestPostage = trial.sentPostage;
            }
        }
        return best;
    }

    public int narrowest() {
        return trial.leastWidth(now);
    }

    public int readyIn(int person) throws IndexOutOfBoundsException {
        if (!isPerson(person)) {
            throw new IndexOutOfBoundsException("no such person");
        }
        return waitOf(person);
    }

    public double share() {
        plan.prepare(now, now.settings);
        return shareValue();
    }

    public long digest() {
        plan.prepare(now, now.settings);
        long hash = HASH_START;
        for (int what = 0; what <= COUNT_LAST; what++) {
            hash = mix(hash, countValue(what));
        }
        for (int setting = 0; setting < SETTINGS; setting++) {
            hash = mix(hash, now.settings[setting]);
        }
        hash = mixPersons(hash);
        hash = mixWords(hash);
        hash = mixLetters(hash);
        hash = mix(hash, bestJoin());
        hash = mix(hash, narrowest());
        hash = mix(hash, bitsOfShare(shareValue()));
        hash = mix(hash, buffer.length);
        return mixSigns(hash, buffer.signs, buffer.length);
    }

    // ---- parts of the calls above

    private static boolean isAddress(int address) {
        return address >= 0 && address < ADDRESSES;
    }

    private static boolean isSetting(int setting) {
        return setting >= 0 && setting < SETTINGS;
    }

    private static boolean isValue(int setting, int value) {
        return value >= LEAST[setting] && value <= MOST[setting];
    }

    private static boolean isLetter(int sign) {
        return sign >= 'a' && sign <= 'z';
    }

    private boolean isPerson(int person) {
        return person >= 0 && person < now.personCount;
    }

    private boolean isWord(int word) {
        return word >= 0 && word < now.wordCount;
    }

    private void copyToTrial(int setting, int value) {
        System.arraycopy(now.settings, 0, trialSettings, 0, SETTINGS);
        trialSettings[setting] = value;
    }

    private int waitOf(int person) {
        for (int days = 0; days <= MAX_WAIT; days++) {
            if (now.reasonOn(now.day + days, now.persons[person], now.settings[PAUSE]) == READY) {
                return days;
            }
        }
        return NONE;
    }

    private int personValue(int number, int what) {
        Person person = now.persons[number];
        switch (what) {
            case 0: return person.nameLength;
            case 1: return person.address;
            case 2: return person.form;
            case 3: return person.word;
            case 4: return person.unsubscribed ? 1 : 0;
            case 5: return person.lastDay;
            case 6: return person.had;
            case 7: return plan.letterOf[number];
            default: return plan.reasons[number];
        }
    }

    private int wordValue(int number, int what) {
        Word word = now.words[number];
        switch (what) {
            case 0: return word.length;
            case 1: return word.plural ? 1 : 0;
            case 2: return now.ownersOf(number);
            default: return word.article().length();
        }
    }

    private int letterValue(int number, int what) {
        Draft draft = plan.drafts[number];
        switch (what) {
            case 0: return draft.persons[0];
            case 1: return draft.size;
            case 2: return draft.address;
            case 3: return draft.textLength;
            case 4: return draft.lines;
            case 5: return draft.pages;
            case 6: return draft.pages * now.settings[POSTAGE];
            default: return draft.pages <= now.settings[PAGES] ? 1 : 0;
        }
    }

    private int countValue(int what) {
        switch (what) {
            case 0: return now.personCount;
            case 1: return now.wordCount;
            case 2: return now.items.fieldCount();
            case 3: return now.day;
            case 4: return plan.draftCount;
            case 5: return plan.sentLetters;
            case 6: return plan.sentPersons;
            case 7: return plan.sentPages;
            case 8: return plan.sentPostage;
            case 9: return now.lettersSent;
            case 10: return now.pagesSent;
            case 11: return now.postageSpent;
            case 12: return now.unsubscribedCount();
            case 13: return now.items.itemCount();
            default: return history.size;
        }
    }

    private double shareValue() {
        if (now.personCount == 0) {
            return 0.0;
        }
        return (double) plan.sentPersons / (double) now.personCount;
    }

    /** Double.doubleToLongBits is outside the language; a share is 0 to 1, so it has no sign and no odd cases. */
    private static long bitsOfShare(double share) {
        if (share <= 0.0) {
            return 0L;
        }
        double mantissa = share;
        long exponent = EXPONENT_OF_ONE;
        for (int i = 1; i < EXPONENT_OF_ONE && mantissa < 1.0; i++) {
            mantissa = mantissa * 2.0;
            exponent--;
        }
        long fraction = (long) (mantissa * (double) ONE_IN_MANTISSA) - ONE_IN_MANTISSA;
        return (exponent << 52) + fraction;
    }

    private static long mix(long hash, long value) {
        return 31L * hash + value;
    }

    private static long mixSigns(long start, int[] signs, int length) {
        long hash = start;
        for (int i = 0; i < length && i < signs.length; i++) {
            hash = mix(hash, signs[i]);
        }
        return hash;
    }

    private long mixPersons(long start) {
        long hash = start;
        for (int i = 0; i < now.personCount; i++) {
            for (int what = 0; what <= PERSON_LAST; what++) {
                hash = mix(hash, personValue(i, what));
            }
            hash = mixSigns(hash, now.persons[i].name, now.persons[i].nameLength);
            hash = mix(hash, waitOf(i));
        }
        return hash;
    }

    private long mixWords(long start) {
        long hash = start;
        for (int i = 0; i < now.wordCount; i++) {
            for (int what = 0; what <= WORD_LAST; what++) {
                hash = mix(hash, wordValue(i, what));
            }
            for (int place = 0; place < MAX_NAME; place++) {
                hash = mix(hash, now.words[i].codeAt(place));
            }
        }
        return hash;
    }

    private long mixLetters(long start) {
        long hash = start;
        for (int i = 0; i < plan.draftCount; i++) {
            for (int what = 0; what <= LETTER_LAST; what++) {
                hash = mix(hash, letterValue(i, what));
            }
            hash = mix(hash, plan.drafts[i].mask());
            plan.composer.compose(now, plan.drafts[i]);
            hash = mixSigns(hash, plan.composer.text, plan.composer.length);
        }
        return hash;
    }

    /** The input text, and how it is read as a name, a word or a letter. */
    private static final class Buffer {
        // Where reading a letter stands: among the items of the letter, at the beginning of a
        // joint part, among its items; and in a field, before or behind its own letter.
        private static final int OUTSIDE = 0;
        private static final int JOINT_BEGUN = 1;
        private static final int JOINT = 2;
        private static final int FIELD_BEGUN = 3;
        private static final int FIELD_NAMED = 4;
        private static final int JOINT_FIELD_BEGUN = 5;
        private static final int JOINT_FIELD_NAMED = 6;
        private static final int WRONG = 7;

        private final int[] signs = new int[MAX_BUFFER];
        private int length;

        int firstWrong(int kind) {
            if (kind != KIND_LETTER) {
                return endOfName(kind == KIND_WORD);
            }
            int where = OUTSIDE;
            for (int i = 0; i < length; i++) {
                where = next(where, signs[i]);
                if (where == WRONG) {
                    return i;
                }
            }
            return length;
        }

        boolean isComplete(int kind) {
            if (length == 0) {
                return false;
            }
            if (kind != KIND_LETTER) {
                return endOfName(kind == KIND_WORD) == length;
            }
            int where = OUTSIDE;
            for (int i = 0; i < length; i++) {
                where = next(where, signs[i]);
            }
            return where == OUTSIDE;
        }

        private int endOfName(boolean starAllowed) {
            int end = 0;
            while (end < length && end < MAX_NAME && isLetter(signs[end])) {
                end++;
            }
            if (starAllowed && end > 0 && end < length && signs[end] == '*') {
                end++;
            }
            return end;
        }

        private static int next(int where, int sign) {
            switch (where) {
                case FIELD_BEGUN: return isField(sign) ? FIELD_NAMED : WRONG;
                case JOINT_FIELD_BEGUN: return isField(sign) ? JOINT_FIELD_NAMED : WRONG;
                case FIELD_NAMED: return sign == '>' ? OUTSIDE : WRONG;
                case JOINT_FIELD_NAMED: return sign == '>' ? JOINT : WRONG;
                case OUTSIDE: return nextOutside(sign);
                case JOINT_BEGUN: return nextInJoint(sign);
                case JOINT: return sign == '}' ? OUTSIDE : nextInJoint(sign);
                default: return WRONG;
            }
        }

        private static int nextOutside(int sign) {
            if (sign == '{') {
                return JOINT_BEGUN;
            }
            if (sign == '<') {
                return FIELD_BEGUN;
            }
            return isPlain(sign) ? OUTSIDE : WRONG;
        }

        private static int nextInJoint(int sign) {
            if (sign == '<') {
                return JOINT_FIELD_BEGUN;
            }
            return isPlain(sign) ? JOINT : WRONG;
        }

        private static boolean isField(int sign) {
            return sign == 'n' || sign == 'g' || sign == 'w' || sign == 'c';
        }

        private static boolean isPlain(int sign) {
            return isLetter(sign) || sign == '_' || sign == ',' || sign == '.' || sign == '/' || sign == '|';
        }
    }

    private static final class Person {
        private final int[] name = new int[MAX_NAME];
        private int nameLength;
        private int address;
        private int form;
        private int word;
        private boolean unsubscribed;
        private int lastDay;
        private int had;

        void begin(Buffer buffer, int newAddress, int newForm) {
            nameLength = Math.min(buffer.length, MAX_NAME);
            System.arraycopy(buffer.signs, 0, name, 0, nameLength);
            address = newAddress;
            form = newForm;
            word = NONE;
            unsubscribed = false;
            lastDay = NONE;
            had = 0;
        }

        void copy(Person other) {
            System.arraycopy(other.name, 0, name, 0, MAX_NAME);
            nameLength = other.nameLength;
            address = other.address;
            form = other.form;
            word = other.word;
            unsubscribed = other.unsubscribed;
            lastDay = other.lastDay;
            had = other.had;
        }
    }

    private static final class Word {
        private final int[] letters = new int[MAX_NAME];
        private int length;
        private boolean plural;

        void begin(Buffer buffer) {
            int last = buffer.length - 1;
            plural = last >= 0 && buffer.signs[last] == '*';
            length = Math.min(plural ? last : buffer.length, MAX_NAME);
            System.arraycopy(buffer.signs, 0, letters, 0, length);
        }

        void copy(Word other) {
            System.arraycopy(other.letters, 0, letters, 0, MAX_NAME);
            length = other.length;
            plural = other.plural;
        }

        int codeAt(int place) {
            return place >= 0 && place < length ? letters[place] : NONE;
        }

        String article() {
            if (plural) {
                return "some";
            }
            int first = letters[0];
            boolean vowel = first == 'a' || first == 'e' || first == 'i' || first == 'o' || first == 'u';
            return vowel ? "an" : "a";
        }
    }

    /** The items of the letter, kept as they were written in the buffer. */
    private static final class Items {
        private final int[] signs = new int[MAX_BUFFER];
        private int length;

        void copy(int[] source, int newLength) {
            length = Math.min(newLength, MAX_BUFFER);
            System.arraycopy(source, 0, signs, 0, length);
        }

        int fieldCount() {
            int fields = 0;
            for (int i = 0; i < length; i++) {
                if (signs[i] == '<') {
                    fields++;
                }
            }
            return fields;
        }

        /** A field's letter and ">" and a joint part's "}" are no items of their own. */
        int itemCount() {
            int items = 0;
            for (int i = 0; i < length; i++) {
                if (signs[i] != '}') {
                    items++;
                }
            }
            return items - 2 * fieldCount();
        }

        boolean asksForWords() {
            for (int i = 0; i + 1 < length; i++) {
                if (signs[i] == '<' && signs[i + 1] == 'w') {
                    return true;
                }
            }
            return false;
        }
    }

    /** All that undo brings back. */
    private static final class State {
        private final Person[] persons = new Person[MAX_PERSONS];
        private int personCount;
        private final Word[] words = new Word[MAX_WORDS];
        private int wordCount;
        private final Items items = new Items();
        private final int[] settings = new int[SETTINGS];
        private int day;
        private int lettersSent;
        private int pagesSent;
        private int postageSpent;

        State() {
            for (int i = 0; i < MAX_PERSONS; i++) {
                persons[i] = new Person();
            }
            for (int i = 0; i < MAX_WORDS; i++) {
                words[i] = new Word();
            }
            System.arraycopy(FIRST, 0, settings, 0, SETTINGS);
        }

        void copy(State other) {
            for (int i = 0; i < other.personCount; i++) {
                persons[i].copy(other.persons[i]);
            }
            personCount = other.personCount;
            for (int i = 0; i < other.wordCount; i++) {
                words[i].copy(other.words[i]);
            }
            wordCount = other.wordCount;
            items.copy(other.items.signs, other.items.length);
            System.arraycopy(other.settings, 0, settings, 0, SETTINGS);
            day = other.day;
            lettersSent = other.lettersSent;
            pagesSent = other.pagesSent;
            postageSpent = other.postageSpent;
        }

        /** The first of the reasons 1 to 3 that is against the person on a day. */
        int reasonOn(int someDay, Person person, int pause) {
            if (person.unsubscribed) {
                return UNSUBSCRIBED;
            }
            if (person.lastDay != NONE && someDay - person.lastDay < pause) {
                return HAD_ONE;
            }
            if (person.word == NONE && items.asksForWords()) {
                return NO_WORD;
            }
            return READY;
        }

        int unsubscribedCount() {
            int number = 0;
            for (int i = 0; i < personCount; i++) {
                if (persons[i].unsubscribed) {
                    number++;
                }
            }
            return number;
        }

        int ownersOf(int word) {
            int number = 0;
            for (int i = 0; i < personCount; i++) {
                if (persons[i].word == word) {
                    number++;
                }
            }
            return number;
        }
    }

    /** The saved states, the oldest one first. */
    private static final class History {
        private final State[] states = new State[MAX_SAVED];
        private int size;

        History() {
            for (int i = 0; i < MAX_SAVED; i++) {
                states[i] = new State();
            }
        }

        void keep(State state) {
            if (size >= MAX_SAVED) {
                dropOldest();
            }
            states[size].copy(state);
            size++;
        }

        void restore(State state) {
            if (size > 0) {
                size--;
                state.copy(states[size]);
            }
        }

        // The dropped state's rows are used again for the next one.
        private void dropOldest() {
            State oldest = states[0];
            for (int i = 1; i < MAX_SAVED; i++) {
                states[i - 1] = states[i];
            }
            states[MAX_SAVED - 1] = oldest;
            size = MAX_SAVED - 1;
        }
    }

    /** One letter that would be written. */
    private static final class Draft {
        private final int[] persons = new int[MAX_JOINED];
        private int size;
        private int address;
        private int textLength;
        private int lines;
        private int pages;

        void add(int person) {
            if (size < MAX_JOINED) {
                persons[size] = person;
                size++;
            }
        }

        int mask() {
            int bits = 0;
            for (int i = 0; i < size; i++) {
                bits |= 1 << persons[i];
            }
            return bits;
        }
    }

    /** The letters that would be written, and the totals of those that would be sent. */
    private static final class Mailing {
        private final Draft[] drafts = new Draft[MAX_PERSONS];
        private int draftCount;
        private final int[] reasons = new int[MAX_PERSONS];
        private final int[] letterOf = new int[MAX_PERSONS];
        private final Composer composer;
        private final Layout layout;
        private final int[] lettersBy = new int[MOST_WIDTH + 1];
        private final int[] pagesBy = new int[MOST_WIDTH + 1];
        private int sentLetters;
        private int sentPersons;
        private int sentPages;
        private int sentPostage;

        Mailing(Composer composer, Layout layout) {
            this.composer = composer;
            this.layout = layout;
            for (int i = 0; i < MAX_PERSONS; i++) {
                drafts[i] = new Draft();
            }
        }

        boolean has(int letter) {
            return letter >= 0 && letter < draftCount;
        }

        void prepare(State state, int[] settings) {
            sentLetters = 0;
            sentPersons = 0;
            sentPages = 0;
            divide(state, settings);
            for (int i = 0; i < draftCount; i++) {
                Draft draft = drafts[i];
                composer.compose(state, draft);
                layout.read(composer.text, composer.length);
                layout.fit(settings[WIDTH], settings[PAGE_LINES]);
                draft.textLength = composer.length;
                draft.lines = layout.lines;
                draft.pages = layout.pages;
                addUp(draft, settings[PAGES]);
            }
            sentPostage = sentPages * settings[POSTAGE];
        }

        /** The least width by which as much is sent as by the greatest one. */
        int leastWidth(State state) {
            for (int width = LEAST_WIDTH; width <= MOST_WIDTH; width++) {
                lettersBy[width] = 0;
                pagesBy[width] = 0;
            }
            divide(state, state.settings);
            for (int i = 0; i < draftCount; i++) {
                measureByWidths(drafts[i], state);
            }
            for (int width = LEAST_WIDTH; width < MOST_WIDTH; width++) {
                if (lettersBy[width] == lettersBy[MOST_WIDTH] && pagesBy[width] == pagesBy[MOST_WIDTH]) {
                    return width;
                }
            }
            return MOST_WIDTH;
        }

        private void divide(State state, int[] settings) {
            draftCount = 0;
            for (int i = 0; i < state.personCount; i++) {
                Person person = state.persons[i];
                reasons[i] = state.reasonOn(state.day, person, settings[PAUSE]);
                letterOf[i] = NONE;
                if (reasons[i] == READY) {
                    int letter = draftFor(person.address, settings[JOINED]);
                    letterOf[i] = letter;
                    drafts[letter].add(i);
                }
            }
        }

        /** The draft of this address that has room, or a new one. */
        private int draftFor(int address, int most) {
            for (int i = 0; i < draftCount; i++) {
                if (drafts[i].address == address && drafts[i].size < most) {
                    return i;
                }
            }
            int letter = draftCount;
            drafts[letter].address = address;
            drafts[letter].size = 0;
            draftCount = letter + 1;
            return letter;
        }

        private void addUp(Draft draft, int mostPages) {
            if (draft.pages <= mostPages) {
                sentLetters++;
                sentPersons += draft.size;
                sentPages += draft.pages;
                return;
            }
            for (int i = 0; i < draft.size; i++) {
                reasons[draft.persons[i]] = TOO_LONG;
            }
        }

        private void measureByWidths(Draft draft, State state) {
            composer.compose(state, draft);
            layout.read(composer.text, composer.length);
            for (int width = LEAST_WIDTH; width <= MOST_WIDTH; width++) {
                layout.fit(width, state.settings[PAGE_LINES]);
                if (layout.pages <= state.settings[PAGES]) {
                    lettersBy[width]++;
                    pagesBy[width] += layout.pages;
                }
            }
        }
    }

    /** Writes the text of a letter. */
    private static final class Composer {
        private final int[] text = new int[MAX_TEXT];
        private int length;
        private final int[] chosen = new int[MAX_JOINED];

        void compose(State state, Draft draft) {
            length = 0;
            Items items = state.items;
            boolean skips = false;
            for (int i = 0; i < items.length; i++) {
                int sign = items.signs[i];
                if (sign == '{') {
                    skips = draft.size < 2;
                } else if (sign == '}') {
                    skips = false;
                } else if (sign == '<') {
                    if (!skips && i + 1 < items.length) {
                        putField(items.signs[i + 1], state, draft);
                    }
                    i += 2;
                } else if (!skips) {
                    put(sign);
                }
            }
        }

        private void putField(int field, State state, Draft draft) {
            if (field == 'n') {
                putNames(state, draft);
            } else if (field == 'g') {
                putGrammar(state, draft);
            } else if (field == 'w') {
                putWords(state, draft);
            } else {
                put('0' + draft.size);
            }
        }

        private void putNames(State state, Draft draft) {
            for (int i = 0; i < draft.size; i++) {
                Person person = state.persons[draft.persons[i]];
                if (i > 0) {
                    put(i == draft.size - 1 ? '&' : ',');
                }
                putAll(person.name, person.nameLength);
            }
        }

        private void putGrammar(State state, Draft draft) {
            int form = state.persons[draft.persons[0]].form;
            for (int i = 1; i < draft.size; i++) {
                if (state.persons[draft.persons[i]].form != form) {
                    putText("all");
                    return;
                }
            }
            put(formSign(form));
            if (draft.size > 1) {
                put('s');
            }
        }

        private static int formSign(int form) {
            if (form == 0) {
                return 'f';
            }
            return form == 1 ? 'm' : 'x';
        }

        private void putWords(State state, Draft draft) {
            int number = chooseWords(state, draft);
            for (int i = 0; i < number; i++) {
                Word word = state.words[chosen[i]];
                if (i > 0) {
                    put(i == number - 1 ? '&' : ',');
                }
                putText(word.article());
                put('_');
                putAll(word.letters, word.length);
            }
        }

        /** Each word of the persons once; answers how many. */
        private int chooseWords(State state, Draft draft) {
            int number = 0;
            int seen = 0;
            for (int i = 0; i < draft.size; i++) {
                int word = state.persons[draft.persons[i]].word;
                if (word >= 0 && word < state.wordCount && (seen & (1 << word)) == 0) {
                    seen |= 1 << word;
                    chosen[number] = word;
                    number++;
                }
            }
            return number;
        }

        private void putAll(int[] signs, int number) {
            for (int i = 0; i < number && length < MAX_TEXT; i++) {
                text[length] = signs[i];
                length++;
            }
        }

        private void putText(String signs) {
            for (int i = 0; i < signs.length() && length < MAX_TEXT; i++) {
                text[length] = signs.charAt(i);
                length++;
            }
        }

        private void put(int sign) {
            if (length < MAX_TEXT) {
                text[length] = sign;
                length++;
            }
        }
    }

    /** Lays a text out. It is read once into pieces, so that other widths cost little. */
    private static final class Layout {
        private static final int PAGE_END = '|';
        private static final int LINE_END = '/';
        private static final int BLANK = '_';

        private final int[] lengths = new int[MAX_PIECES];
        private final int[] ends = new int[MAX_PIECES];
        private int pieceCount;
        private int lines;
        private int pages;

        void read(int[] text, int length) {
            pieceCount = 0;
            int begin = 0;
            for (int i = 0; i <= length && pieceCount < MAX_PIECES; i++) {
                int sign = i < length ? text[i] : PAGE_END;
                if (sign == BLANK || sign == LINE_END || sign == PAGE_END) {
                    lengths[pieceCount] = i - begin;
                    ends[pieceCount] = sign;
                    pieceCount++;
                    begin = i + 1;
                }
            }
        }

        void fit(int width, int pageLines) {
            lines = 0;
            pages = 0;
            if (width < 1 || pageLines < 1) {
                return;
            }
            int partBegin = 0;
            int used = NONE;
            for (int i = 0; i < pieceCount; i++) {
                used = place(lengths[i], used, width);
                if (ends[i] != BLANK) {
                    used = NONE;
                }
                if (ends[i] == PAGE_END) {
                    pages += (lines - partBegin + pageLines - 1) / pageLines;
                    partBegin = lines;
                }
            }
        }

        /** Puts a piece behind the used places of a line, NONE if no line is begun; answers those used then. */
        private int place(int length, int used, int width) {
            if (used != NONE && used + 1 + length <= width) {
                return used + 1 + length;
            }
            if (length <= width || width < 1) {
                lines++;
                return length;
            }
            // Each cut piece but the rest fills a line, so nothing shares one with another.
            int rest = length % width;
            lines += length / width + (rest > 0 ? 1 : 0);
            return rest > 0 ? rest : width;
        }
    }
}
