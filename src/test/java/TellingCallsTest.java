/** Promises 15 to 22, what there is: the edges of each sentence, a test of its own for each. */
public final class TellingCallsTest {
    private static final int NONE = HouseholdMail.NONE;
    private static final int FAR = Check.FAR;
    private static final int DEEP = Check.DEEP;
    private static final Check check = new Check();

    public static void main(String[] args) {
        Tests.run(TellingCallsTest.class, check);
    }

    private static Mail persons(int number) {
        return new Mail().addPersons(number, 0);
    }

    private static Mail words(String... words) {
        Mail mail = new Mail();
        for (String word : words) {
            mail.addWord(word);
        }
        return mail;
    }

    /** Six persons with names of 8 letters and plural words of 8 letters, and a letter of 20 fields "<w>". */
    private static Mail longest() {
        Mail mail = new Mail();
        for (int i = 0; i < 6; i++) {
            mail.addPerson("abcdefg" + (char) ('a' + i), 0, 0);
            mail.addWord("abcdefg" + (char) ('a' + i) + "*");
            mail.give(i, i);
        }
        mail.set(2, 6);
        mail.take("<w>".repeat(20));
        return mail;
    }

    // ---- promise 15: person

    static void promise15PersonIsThere() {
        Mail mail = persons(3);
        check.is("the first", mail.person(0, 0), 1);
        check.is("the last", mail.person(2, 0), 1);
        check.index("person(-1, 0)", mail, () -> mail.person(-1, 0));
        check.index("person(3, 0)", mail, () -> mail.person(3, 0));
        check.index("person(far, 0)", mail, () -> mail.person(FAR, 0));
        check.index("person(deep, 0)", mail, () -> mail.person(DEEP, 0));
    }

    static void promise15The20thPerson() {
        Mail mail = persons(20);
        check.is("the 20th", mail.person(19, 0), 1);
        check.index("a 21st", mail, () -> mail.person(20, 0));
    }

    static void promise15WhatIs0To8() {
        Mail mail = persons(1);
        check.is("what 0", mail.person(0, 0), 1);
        check.is("what 8", mail.person(0, 8), 0);
        check.argument("what -1", mail, () -> mail.person(0, -1));
        check.argument("what 9", mail, () -> mail.person(0, 9));
        check.argument("what far", mail, () -> mail.person(0, FAR));
        check.argument("what deep", mail, () -> mail.person(0, DEEP));
    }

    static void promise15ThePersonComesFirst() {
        Mail mail = persons(1);
        check.index("person(1, 9)", mail, () -> mail.person(1, 9));
        check.index("person(-1, -1)", mail, () -> mail.person(-1, -1));
    }

    static void promise15LettersOfTheName() {
        Mail mail = new Mail();
        mail.addPerson("a", 0, 0);
        mail.addPerson("abcdefgh", 0, 0);
        check.is("one letter", mail.person(0, 0), 1);
        check.is("8 letters", mail.person(1, 0), 8);
    }

    static void promise15AddressAndForm() {
        Mail mail = new Mail();
        mail.addPerson("a", 0, 2);
        mail.addPerson("b", 19, 0);
        check.is("the address 0", mail.person(0, 1), 0);
        check.is("the form 2", mail.person(0, 2), 2);
        check.is("the address 19", mail.person(1, 1), 19);
        check.is("the form 0", mail.person(1, 2), 0);
    }

    static void promise15Word() {
        Mail mail = words("a", "b", "c", "d", "e", "f", "g", "h", "i", "j").addPersons(1, 0);
        check.is("none", mail.person(0, 3), NONE);
        mail.give(0, 0);
        check.is("the first", mail.person(0, 3), 0);
        mail.give(0, 9);
        check.is("the last", mail.person(0, 3), 9);
    }

    static void promise15Unsubscribed() {
        Mail mail = persons(1);
        check.is("not", mail.person(0, 4), 0);
        mail.unsubscribe(0, true);
        check.is("unsubscribed", mail.person(0, 4), 1);
    }

    static void promise15DayAndLetters() {
        Mail mail = persons(1);
        mail.take("a");
        mail.set(3, 0);
        check.is("no day", mail.person(0, 5), NONE);
        check.is("no letters", mail.person(0, 6), 0);
        mail.send();
        mail.send();
        check.is("the day 0", mail.person(0, 5), 0);
        check.is("two letters of one day", mail.person(0, 6), 2);
        mail.pass(100);
        mail.send();
        check.is("the day 100", mail.person(0, 5), 100);
        check.is("three letters", mail.person(0, 6), 3);
    }

    static void promise15Letter() {
        Mail mail = new Mail();
        for (int i = 0; i < 20; i++) {
            mail.addPerson("p", i, 0);
        }
        check.is("the first letter", mail.person(0, 7), 0);
        check.is("the last letter", mail.person(19, 7), 19);
        mail.unsubscribe(0, true);
        check.is("no letter", mail.person(0, 7), NONE);
        check.is("the last letter then", mail.person(19, 7), 18);
    }

    static void promise15LetterThatIsTooLong() {
        Mail mail = persons(1);
        mail.take("|||");
        check.is("the letter", mail.person(0, 7), 0);
        check.is("the reason", mail.person(0, 8), 4);
    }

    static void promise15ReasonIsTheFirstOne() {
        Mail mail = persons(1);
        mail.take("|||<w>");
        check.is("of 3 and 4", mail.person(0, 8), 3);
        mail.take("a");
        mail.send();
        mail.take("|||<w>");
        check.is("of 2, 3 and 4", mail.person(0, 8), 2);
        mail.unsubscribe(0, true);
        check.is("of 1 to 4", mail.person(0, 8), 1);
        mail.pass(7);
        check.is("of 1, 3 and 4", mail.person(0, 8), 1);
        mail.unsubscribe(0, false);
        mail.addWord("ink");
        mail.give(0, 0);
        check.is("of 4 alone", mail.person(0, 8), 4);
        mail.take("<w>");
        check.is("of none", mail.person(0, 8), 0);
    }

    // ---- promise 16: name

    static void promise16PersonIsThere() {
        Mail mail = persons(3);
        check.is("the first", mail.name(0, 0), 'a');
        check.is("the last", mail.name(2, 0), 'c');
        check.index("name(-1, 0)", mail, () -> mail.name(-1, 0));
        check.index("name(3, 0)", mail, () -> mail.name(3, 0));
        check.index("name(far, 0)", mail, () -> mail.name(FAR, 0));
        check.index("name(deep, 0)", mail, () -> mail.name(DEEP, 0));
    }

    static void promise16The20thPerson() {
        Mail mail = persons(20);
        check.is("the 20th", mail.name(19, 0), 't');
        check.index("a 21st", mail, () -> mail.name(20, 0));
    }

    static void promise16PlaceOfAShortName() {
        Mail mail = persons(1);
        check.is("the place 0", mail.name(0, 0), 'a');
        check.index("the place -1", mail, () -> mail.name(0, -1));
        check.index("the place 1", mail, () -> mail.name(0, 1));
    }

    static void promise16PlaceOfALongName() {
        Mail mail = new Mail();
        mail.addPerson("stuvwxyz", 0, 0);
        for (int place = 0; place < 8; place++) {
            check.is("the place " + place, mail.name(0, place), 's' + place);
        }
        check.index("the place -1", mail, () -> mail.name(0, -1));
        check.index("the place 8", mail, () -> mail.name(0, 8));
        check.index("a far place", mail, () -> mail.name(0, FAR));
        check.index("a deep place", mail, () -> mail.name(0, DEEP));
    }

    // ---- promise 17: word

    static void promise17WordIsThere() {
        Mail mail = words("a", "b", "c");
        check.is("the first", mail.word(0, 10), 'a');
        check.is("the last", mail.word(2, 10), 'c');
        check.index("word(-1, 0)", mail, () -> mail.word(-1, 0));
        check.index("word(3, 0)", mail, () -> mail.word(3, 0));
        check.index("word(far, 0)", mail, () -> mail.word(FAR, 0));
        check.index("word(deep, 0)", mail, () -> mail.word(DEEP, 0));
    }

    static void promise17The10thWord() {
        Mail mail = words("a", "b", "c", "d", "e", "f", "g", "h", "i", "j");
        check.is("the 10th", mail.word(9, 10), 'j');
        check.index("an 11th", mail, () -> mail.word(10, 0));
    }

    static void promise17WhatIs0To3Or10To17() {
        Mail mail = words("abcdefgh");
        check.is("what 0", mail.word(0, 0), 8);
        check.is("what 3", mail.word(0, 3), 2);
        check.is("what 10", mail.word(0, 10), 'a');
        check.is("what 17", mail.word(0, 17), 'h');
        for (int what : new int[] {-1, 4, 5, 6, 7, 8, 9, 18, FAR, DEEP}) {
            check.argument("what " + what, mail, () -> mail.word(0, what));
        }
    }

    static void promise17TheWordComesFirst() {
        Mail mail = words("a");
        check.index("word(1, 4)", mail, () -> mail.word(1, 4));
        check.index("word(-1, 18)", mail, () -> mail.word(-1, 18));
    }

    static void promise17LettersWithoutTheStar() {
        Mail mail = words("a", "b*", "abcdefgh", "abcdefgh*");
        check.is("letters of a", mail.word(0, 0), 1);
        check.is("letters of b*", mail.word(1, 0), 1);
        check.is("letters of abcdefgh", mail.word(2, 0), 8);
        check.is("letters of abcdefgh*", mail.word(3, 0), 8);
    }

    static void promise17Plural() {
        Mail mail = words("a", "b*", "abcdefgh", "abcdefgh*");
        for (int i = 0; i < 4; i++) {
            check.is("plural of " + i, mail.word(i, 1), i % 2);
        }
    }

    static void promise17PersonsWhoHaveIt() {
        Mail mail = words("a", "b").addPersons(20, 0);
        check.is("nobody", mail.word(0, 2), 0);
        for (int i = 0; i < 20; i++) {
            mail.give(i, 1);
            check.is("some", mail.word(1, 2), i + 1);
        }
        check.is("nobody has the other", mail.word(0, 2), 0);
        mail.unsubscribe(0, true);
        check.is("with an unsubscribed one", mail.word(1, 2), 20);
        mail.give(19, NONE);
        check.is("one less", mail.word(1, 2), 19);
    }

    static void promise17LengthOfTheArticle() {
        for (char first = 'a'; first <= 'z'; first++) {
            Mail mail = words("" + first, first + "*");
            check.is("the article of " + first, mail.word(0, 3), "aeiou".indexOf(first) >= 0 ? 2 : 1);
            check.is("the article of " + first + "*", mail.word(1, 3), 4);
        }
    }

    static void promise17LettersThatAreNotThere() {
        Mail mail = words("a", "b*", "abcdefg*");
        check.is("letter 0 of a", mail.word(0, 10), 'a');
        check.is("letter 0 of b*", mail.word(1, 10), 'b');
        for (int what = 11; what <= 17; what++) {
            check.is("what " + what + " of a", mail.word(0, what), NONE);
            check.is("what " + what + " of b*", mail.word(1, what), NONE);
        }
        check.is("letter 6 of abcdefg*", mail.word(2, 16), 'g');
        check.is("letter 7 of abcdefg*", mail.word(2, 17), NONE);
    }

    static void promise17LettersOfAnUndoneWordAreNotThere() {
        Mail mail = words("abcdefgh*");
        mail.undo();
        mail.addWord("z");
        check.is("plural", mail.word(0, 1), 0);
        check.is("letter 0", mail.word(0, 10), 'z');
        check.is("letter 1", mail.word(0, 11), NONE);
    }

    // ---- promise 18: letter

    static void promise18LetterIsThere() {
        Mail mail = persons(9);
        check.is("the first", mail.letter(0, 1), 4);
        check.is("the last", mail.letter(2, 1), 1);
        check.index("letter(-1, 0)", mail, () -> mail.letter(-1, 0));
        check.index("letter(3, 0)", mail, () -> mail.letter(3, 0));
        check.index("letter(far, 0)", mail, () -> mail.letter(FAR, 0));
        check.index("letter(deep, 0)", mail, () -> mail.letter(DEEP, 0));
    }

    static void promise18WithoutLetters() {
        Mail nobody = new Mail();
        check.index("without persons", nobody, () -> nobody.letter(0, 0));
        Mail mail = persons(1);
        mail.unsubscribe(0, true);
        check.index("without a ready person", mail, () -> mail.letter(0, 0));
    }

    static void promise18The20thLetter() {
        Mail mail = persons(20);
        mail.set(2, 1);
        check.is("its first person", mail.letter(19, 0), 19);
        check.index("a 21st letter", mail, () -> mail.letter(20, 0));
    }

    static void promise18WhatIs0To7() {
        Mail mail = persons(1);
        check.is("what 0", mail.letter(0, 0), 0);
        check.is("what 7", mail.letter(0, 7), 1);
        check.argument("what -1", mail, () -> mail.letter(0, -1));
        check.argument("what 8", mail, () -> mail.letter(0, 8));
        check.argument("what far", mail, () -> mail.letter(0, FAR));
        check.argument("what deep", mail, () -> mail.letter(0, DEEP));
    }

    static void promise18TheLetterComesFirst() {
        Mail mail = persons(1);
        check.index("letter(1, 8)", mail, () -> mail.letter(1, 8));
        check.index("letter(-1, -1)", mail, () -> mail.letter(-1, -1));
    }

    static void promise18FirstPersonAndHowMany() {
        Mail mail = persons(7);
        mail.set(2, 6);
        check.is("the first person", mail.letter(0, 0), 0);
        check.is("how many", mail.letter(0, 1), 6);
        check.is("the second letter's first person", mail.letter(1, 0), 6);
        check.is("how many", mail.letter(1, 1), 1);
        mail.unsubscribe(0, true);
        check.is("the first person who is ready", mail.letter(0, 0), 1);
    }

    static void promise18Address() {
        Mail mail = new Mail();
        mail.addPerson("a", 19, 0);
        mail.addPerson("b", 0, 0);
        check.is("the address 19", mail.letter(0, 2), 19);
        check.is("the address 0", mail.letter(1, 2), 0);
    }

    static void promise18LengthOfTheText() {
        Mail mail = persons(1);
        check.is("an empty letter", mail.letter(0, 3), 0);
        mail.take("{a}");
        check.is("a joint part that is not there", mail.letter(0, 3), 0);
        mail.take("|");
        check.is("one sign", mail.letter(0, 3), 1);
        mail.take("a".repeat(60));
        check.is("60 signs", mail.letter(0, 3), 60);
    }

    static void promise18TheLongestText() {
        Mail mail = longest();
        // 20 fields of 6 words with "some_" and 8 letters, and 5 signs between them.
        check.is("its length", mail.letter(0, 3), 20 * (6 * 13 + 5));
        mail.take("<n>".repeat(20));
        check.is("the length of the names", mail.letter(0, 3), 20 * (6 * 8 + 5));
    }

    static void promise18LinesAndPagesOfTheLongestText() {
        Mail mail = longest();
        mail.set(0, 13);
        mail.set(1, 20);
        mail.set(4, 9);
        // A word and the article behind it are a piece, of 13 or, between fields, 12; the first and last are shorter.
        check.is("lines by 13", mail.letter(0, 4), 121);
        check.is("pages by 20", mail.letter(0, 5), 7);
        check.is("would be sent", mail.letter(0, 7), 1);
        mail.set(0, 5);
        // Behind "some": 19 times 5 pieces of 13 and one of 12, then 5 of 13 and one of 8, each cut by 5.
        check.is("lines by 5", mail.letter(0, 4), 1 + 19 * 18 + 17);
        check.is("pages by 20", mail.letter(0, 5), 18);
        mail.set(1, 1);
        check.is("pages by 1", mail.letter(0, 5), 360);
        mail.set(5, 20);
        check.is("postage by 20", mail.letter(0, 6), 7200);
        check.is("would be sent", mail.letter(0, 7), 0);
    }

    static void promise18LinesPagesAndPostageOfAnEmptyText() {
        Mail mail = persons(1);
        check.is("lines", mail.letter(0, 4), 1);
        check.is("pages", mail.letter(0, 5), 1);
        check.is("postage", mail.letter(0, 6), 4);
        check.is("would be sent", mail.letter(0, 7), 1);
    }

    static void promise18WouldBeSentUpToTheMostPages() {
        Mail mail = persons(1);
        mail.take("||");
        check.is("3 of 3 pages", mail.letter(0, 7), 1);
        mail.take("|||");
        check.is("4 of 3 pages", mail.letter(0, 7), 0);
        mail.set(4, 4);
        check.is("4 of 4 pages", mail.letter(0, 7), 1);
    }

    // ---- promise 19: sign

    static void promise19LetterIsThere() {
        Mail mail = persons(5);
        mail.take("<c>");
        check.is("the first", mail.sign(0, 0), '4');
        check.is("the last", mail.sign(1, 0), '1');
        check.index("sign(-1, 0)", mail, () -> mail.sign(-1, 0));
        check.index("sign(2, 0)", mail, () -> mail.sign(2, 0));
        check.index("sign(far, 0)", mail, () -> mail.sign(FAR, 0));
        check.index("sign(deep, 0)", mail, () -> mail.sign(DEEP, 0));
    }

    static void promise19PlaceIsThere() {
        Mail mail = persons(1);
        mail.take("abc");
        check.is("the first place", mail.sign(0, 0), 'a');
        check.is("the last place", mail.sign(0, 2), 'c');
        check.index("the place -1", mail, () -> mail.sign(0, -1));
        check.index("the place 3", mail, () -> mail.sign(0, 3));
        check.index("a far place", mail, () -> mail.sign(0, FAR));
        check.index("a deep place", mail, () -> mail.sign(0, DEEP));
    }

    static void promise19OfAnEmptyText() {
        Mail mail = persons(1);
        check.index("of an empty letter", mail, () -> mail.sign(0, 0));
        mail.take("{a}");
        check.index("of a joint part that is not there", mail, () -> mail.sign(0, 0));
    }

    static void promise19WithoutLetters() {
        Mail mail = new Mail();
        mail.take("a");
        check.index("sign(0, 0)", mail, () -> mail.sign(0, 0));
    }

    static void promise19PlacesOfEachLetter() {
        Mail mail = new Mail();
        mail.addPerson("ann", 0, 0);
        mail.addPerson("b", 1, 0);
        mail.take("<n>");
        check.is("the last place of the first", mail.sign(0, 2), 'n');
        check.is("the only place of the second", mail.sign(1, 0), 'b');
        check.index("a place that the first has alone", mail, () -> mail.sign(1, 1));
        check.is("the first place of the first", mail.sign(0, 0), 'a');
    }

    static void promise19BlanksAndEnds() {
        Mail mail = persons(1);
        mail.take("_/|,.");
        int[] due = {95, 47, 124, 44, 46};
        for (int place = 0; place < due.length; place++) {
            check.is("the place " + place, mail.sign(0, place), due[place]);
        }
    }

    static void promise19OfTheLongestText() {
        Mail mail = longest();
        check.is("the first sign", mail.sign(0, 0), 's');
        check.is("the last sign", mail.sign(0, 1659), 'f');
        check.is("the sign before it", mail.sign(0, 1658), 'g');
        check.index("one more", mail, () -> mail.sign(0, 1660));
    }

    // ---- promise 20: members

    static void promise20LetterIsThere() {
        Mail mail = persons(5);
        check.is("the first", mail.members(0), 15);
        check.is("the last", mail.members(1), 16);
        check.index("members(-1)", mail, () -> mail.members(-1));
        check.index("members(2)", mail, () -> mail.members(2));
        check.index("members(far)", mail, () -> mail.members(FAR));
        check.index("members(deep)", mail, () -> mail.members(DEEP));
    }

    static void promise20WithoutLetters() {
        Mail mail = new Mail();
        check.index("members(0)", mail, () -> mail.members(0));
    }

    static void promise20TheFirstAndTheLastBit() {
        Mail mail = persons(20);
        for (int i = 1; i < 19; i++) {
            mail.unsubscribe(i, true);
        }
        check.is("of persons 0 and 19", mail.members(0), 0x80001);
        mail.unsubscribe(0, true);
        check.is("of person 19", mail.members(0), 0x80000);
        mail.unsubscribe(19, true);
        mail.unsubscribe(0, false);
        check.is("of person 0", mail.members(0), 1);
    }

    static void promise20OneAndSixBits() {
        Mail mail = persons(7);
        mail.set(2, 6);
        check.is("six", mail.members(0), 0x3f);
        check.is("one", mail.members(1), 0x40);
    }

    static void promise20OfALetterThatIsTooLong() {
        Mail mail = persons(2);
        mail.take("|||");
        check.is("two", mail.members(0), 3);
    }

    // ---- promise 21: count

    static void promise21WhatIs0To14() {
        Mail mail = persons(1);
        check.is("what 0", mail.count(0), 1);
        check.is("what 14", mail.count(14), 1);
        check.argument("what -1", mail, () -> mail.count(-1));
        check.argument("what 15", mail, () -> mail.count(15));
        check.argument("what far", mail, () -> mail.count(FAR));
        check.argument("what deep", mail, () -> mail.count(DEEP));
    }

    static void promise21PersonsAndWords() {
        Mail mail = words("a", "b", "c", "d", "e", "f", "g", "h", "i", "j").addPersons(20, 0);
        check.is("persons", mail.count(0), 20);
        check.is("words", mail.count(1), 10);
    }

    static void promise21FieldsWithThoseInJointParts() {
        Mail mail = new Mail();
        check.is("of no letter", mail.count(2), 0);
        mail.take("nwgc{n}");
        check.is("none", mail.count(2), 0);
        mail.take("<n>{<g>a<w>}{<n>}");
        check.is("some", mail.count(2), 4);
        mail.take("<c>".repeat(20));
        check.is("the most", mail.count(2), 20);
    }

    static void promise21NumberOfTheDay() {
        Mail mail = new Mail();
        check.is("the first day", mail.count(3), 0);
        for (int i = 0; i < 100; i++) {
            mail.pass(100);
        }
        check.is("the last day", mail.count(3), 10000);
    }

    /** Seven persons: a letter to six, which is too long, and one to one. */
    private static Mail oneOfTwo() {
        Mail mail = persons(7);
        mail.set(2, 6);
        mail.take("a|b{|||}");
        return mail;
    }

    static void promise21LettersThatWouldBeWritten() {
        check.is("without persons", new Mail().count(4), 0);
        check.is("with one that is too long", oneOfTwo().count(4), 2);
        Mail mail = persons(20);
        mail.set(2, 1);
        check.is("the most", mail.count(4), 20);
    }

    static void promise21OfTheseThatWouldBeSent() {
        check.is("without persons", new Mail().count(5), 0);
        check.is("without one that is too long", oneOfTwo().count(5), 1);
        Mail mail = oneOfTwo();
        mail.set(4, 5);
        check.is("with the pages allowed", mail.count(5), 2);
        mail.set(4, 1);
        check.is("none", mail.count(5), 0);
    }

    static void promise21TheirPersonsPagesAndPostage() {
        Mail mail = oneOfTwo();
        check.is("persons", mail.count(6), 1);
        check.is("pages", mail.count(7), 2);
        check.is("postage", mail.count(8), 8);
        mail.set(4, 5);
        check.is("persons of both", mail.count(6), 7);
        check.is("pages of both", mail.count(7), 7);
        check.is("postage of both", mail.count(8), 28);
        mail.set(4, 1);
        check.is("persons of none", mail.count(6), 0);
        check.is("pages of none", mail.count(7), 0);
        check.is("postage of none", mail.count(8), 0);
    }

    static void promise21TheMostPagesAndPostage() {
        Mail mail = persons(20);
        mail.set(2, 1);
        mail.set(4, 9);
        mail.set(5, 20);
        mail.take("|".repeat(8));
        check.is("persons", mail.count(6), 20);
        check.is("pages", mail.count(7), 180);
        check.is("postage", mail.count(8), 3600);
    }

    static void promise21SentSoFar() {
        Mail mail = oneOfTwo();
        for (int what = 9; what <= 11; what++) {
            check.is("nothing so far, count(" + what + ")", mail.count(what), 0);
        }
        mail.send();
        check.is("letters", mail.count(9), 1);
        check.is("pages", mail.count(10), 2);
        check.is("postage", mail.count(11), 8);
        mail.set(4, 9);
        mail.set(5, 1);
        mail.send();
        check.is("letters with the other", mail.count(9), 2);
        check.is("pages with the other", mail.count(10), 7);
        check.is("postage with the other, by 1", mail.count(11), 13);
    }

    static void promise21PersonsWhoAreUnsubscribed() {
        Mail mail = persons(20);
        check.is("none", mail.count(12), 0);
        for (int i = 0; i < 20; i++) {
            mail.unsubscribe(i, true);
        }
        check.is("all", mail.count(12), 20);
    }

    static void promise21ItemsOfTheLetter() {
        Mail mail = new Mail();
        check.is("of no letter", mail.count(13), 0);
        mail.take("a");
        check.is("one", mail.count(13), 1);
        mail.take("<w>");
        check.is("a field", mail.count(13), 1);
        mail.take("{a}");
        check.is("a joint part with one item", mail.count(13), 2);
        mail.take("{<n>}");
        check.is("a joint part with a field", mail.count(13), 2);
        mail.take("_{<n>/b}|{,}");
        check.is("signs and joint parts", mail.count(13), 8);
        mail.take("b".repeat(60));
        check.is("the most", mail.count(13), 60);
        mail.take("{" + "b".repeat(58) + "}");
        check.is("the most in a joint part", mail.count(13), 59);
    }

    static void promise21SavedStates() {
        Mail mail = new Mail();
        check.is("none", mail.count(14), 0);
        for (int i = 1; i <= 8; i++) {
            mail.pass(1);
            check.is("some", mail.count(14), i < 6 ? i : 6);
        }
    }

    // ---- promise 22: setting

    static void promise22SettingIs0To5() {
        Mail mail = new Mail();
        check.is("setting(0)", mail.setting(0), 20);
        check.is("setting(5)", mail.setting(5), 4);
        check.index("setting(-1)", mail, () -> mail.setting(-1));
        check.index("setting(6)", mail, () -> mail.setting(6));
        check.index("setting(far)", mail, () -> mail.setting(FAR));
        check.index("setting(deep)", mail, () -> mail.setting(DEEP));
    }

    static void promise22ReturnsTheValue() {
        Mail mail = new Mail();
        int[] values = {40, 20, 6, 30, 9, 19};
        for (int i = 0; i < 6; i++) {
            mail.set(i, values[i]);
        }
        for (int i = 0; i < 6; i++) {
            check.is("setting(" + i + ")", mail.setting(i), values[i]);
        }
    }
}
