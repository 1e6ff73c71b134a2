/** Terms, "The letter": each sentence's edges. */
public final class TheLetterTest {
    private static final Check check = new Check();

    public static void main(String[] args) {
        Tests.run(TheLetterTest.class, check);
    }

    /** Persons at one address, with these names, for one letter to all. */
    private static Mail home(String... names) {
        Mail mail = new Mail();
        for (String name : names) {
            mail.addPerson(name, 0, 0);
        }
        mail.set(2, 6);
        return mail;
    }

    /** Persons at one address with these forms. */
    private static Mail forms(int... forms) {
        Mail mail = new Mail();
        for (int form : forms) {
            mail.addPerson("a", 0, form);
        }
        mail.set(2, 6);
        mail.take("<g>");
        return mail;
    }

    /** Words, and a person at one address for each of the numbers of words. */
    private static Mail words(String[] words, int... given) {
        Mail mail = new Mail();
        for (String word : words) {
            mail.addWord(word);
        }
        for (int i = 0; i < given.length; i++) {
            mail.addPerson("a", 0, 0);
            mail.give(i, given[i]);
        }
        mail.set(2, 6);
        mail.take("<w>");
        return mail;
    }

    private static String textOf(String letter, Mail mail) {
        mail.take(letter);
        return mail.text(0);
    }

    // ---- items

    static void isAtFirstEmpty() {
        Mail mail = home("ann");
        check.is("items", mail.count(13), 0);
        check.is("fields", mail.count(2), 0);
        check.is("the text", mail.text(0), "");
    }

    static void aSignIsALetterABlankACommaOrAPoint() {
        for (char sign : "abcdefghijklmnopqrstuvwxyz_,.".toCharArray()) {
            Mail mail = home("ann");
            check.is("the text of " + sign, textOf("" + sign, mail), "" + sign);
            check.is("items", mail.count(13), 1);
            check.is("fields", mail.count(2), 0);
        }
    }

    static void theEndsOfALineAndOfAPageAreItems() {
        for (String end : new String[] {"/", "|"}) {
            Mail mail = home("ann");
            check.is("the text of " + end, textOf(end, mail), end);
            check.is("items", mail.count(13), 1);
            check.is("fields", mail.count(2), 0);
        }
    }

    static void aFieldIsOneItem() {
        for (char field : "ngwc".toCharArray()) {
            Mail mail = home("ann");
            check.is("fields", mail.take("<" + field + ">"), 1);
            check.is("items", mail.count(13), 1);
        }
    }

    static void noOtherCharacterIsAnItem() {
        for (int code = 33; code <= 126; code++) {
            boolean item = "abcdefghijklmnopqrstuvwxyz_,./|".indexOf(code) >= 0;
            Mail mail = new Mail();
            mail.append(code);
            if (item) {
                check.is("take of " + code, mail.take(), 0);
            } else {
                check.argument("take of " + code, mail, mail::take);
            }
        }
    }

    static void noOtherFieldIsThere() {
        for (int code = 33; code <= 126; code++) {
            Mail mail = new Mail().type("<");
            mail.append(code);
            mail.type(">");
            if ("ngwc".indexOf(code) >= 0) {
                check.is("take of the field " + code, mail.take(), 1);
            } else {
                check.argument("take of the field " + code, mail, mail::take);
            }
        }
    }

    static void theLettersOfFieldsAreSignsOutsideOfThem() {
        Mail mail = home("ann");
        check.is("the text", textOf("n<n>gwc", mail), "nanngwc");
        check.is("items", mail.count(13), 5);
        check.is("fields", mail.count(2), 1);
        check.is("no reason without <w>", mail.person(0, 8), 0);
    }

    static void aJointPartHasNoJointPart() {
        Mail mail = new Mail().type("{a{b}c}");
        check.argument("a joint part in a joint part", mail, mail::take);
    }

    // ---- <n>

    static void namesOfOne() {
        check.is("<n>", textOf("<n>", home("ann")), "ann");
    }

    static void namesOfTwo() {
        check.is("<n>", textOf("<n>", home("ann", "bob")), "ann&bob");
    }

    static void namesOfThree() {
        check.is("<n>", textOf("<n>", home("ann", "bob", "cyd")), "ann,bob&cyd");
    }

    static void namesOfSix() {
        check.is("<n>", textOf("<n>", home("a", "bb", "ccc", "dddd", "eeeee", "ffffffff")),
            "a,bb,ccc,dddd,eeeee&ffffffff");
    }

    static void namesAreInTheOrderOfTheNumbers() {
        Mail mail = home("zoe", "bob", "ann");
        mail.move(0, 4);
        mail.move(1, 4);
        mail.move(2, 4);
        mail.move(0, 3);
        mail.move(0, 4);
        check.is("<n>", textOf("<n>", mail), "zoe,bob&ann");
    }

    static void namesAreThoseOfTheLettersPersonsOnly() {
        Mail mail = home("ann", "bob", "cyd", "dan");
        mail.unsubscribe(1, true);
        mail.move(3, 1);
        mail.take("<n>");
        check.is("<n>", mail.text(0), "ann&cyd");
        check.is("<n>", mail.text(1), "dan");
    }

    static void equalNamesAreAllThere() {
        check.is("<n>", textOf("<n>", home("ann", "ann", "ann")), "ann,ann&ann");
    }

    // ---- <g>

    static void grammarOfOne() {
        check.is("<g> of the form 0", forms(0).text(0), "f");
        check.is("<g> of the form 1", forms(1).text(0), "m");
        check.is("<g> of the form 2", forms(2).text(0), "x");
    }

    static void grammarOfTwoOfTheSameForm() {
        check.is("<g> of the form 0", forms(0, 0).text(0), "fs");
        check.is("<g> of the form 1", forms(1, 1).text(0), "ms");
        check.is("<g> of the form 2", forms(2, 2).text(0), "xs");
    }

    static void grammarOfTwoForms() {
        for (int first = 0; first <= 2; first++) {
            for (int second = 0; second <= 2; second++) {
                if (first != second) {
                    check.is("<g> of " + first + " and " + second, forms(first, second).text(0), "all");
                }
            }
        }
    }

    static void grammarOfSixOfTheSameForm() {
        check.is("<g>", forms(1, 1, 1, 1, 1, 1).text(0), "ms");
    }

    static void grammarIfOneOfSixHasAnotherForm() {
        for (int other = 0; other < 6; other++) {
            int[] forms = {1, 1, 1, 1, 1, 1};
            forms[other] = 2;
            check.is("<g> if " + other + " has another form", forms(forms).text(0), "all");
        }
    }

    static void grammarIsOfTheLettersPersonsOnly() {
        Mail mail = forms(0, 1, 0);
        mail.unsubscribe(1, true);
        check.is("<g> without bob", mail.text(0), "fs");
        mail.unsubscribe(2, true);
        check.is("<g> for one", mail.text(0), "f");
    }

    // ---- <w>

    static void wordOfOne() {
        check.is("<w>", words(new String[] {"pen"}, 0).text(0), "a_pen");
    }

    static void wordsOfTwo() {
        check.is("<w>", words(new String[] {"pen", "egg"}, 0, 1).text(0), "a_pen&an_egg");
    }

    static void wordsOfThree() {
        check.is("<w>", words(new String[] {"pen", "egg", "oats*"}, 0, 1, 2).text(0), "a_pen,an_egg&some_oats");
    }

    static void wordsOfSix() {
        String[] words = {"a", "b", "c*", "d", "e", "abcdefgh*"};
        check.is("<w>", words(words, 0, 1, 2, 3, 4, 5).text(0), "an_a,a_b,some_c,a_d,an_e&some_abcdefgh");
    }

    static void aWordOfAllIsThereOnce() {
        check.is("<w>", words(new String[] {"pen"}, 0, 0, 0, 0, 0, 0).text(0), "a_pen");
    }

    static void aWordOfTheFirstAndTheLastIsThereOnce() {
        check.is("<w>", words(new String[] {"pen", "egg"}, 0, 1, 0).text(0), "a_pen&an_egg");
    }

    static void wordsAreInTheOrderOfTheirFirstPersons() {
        check.is("<w>", words(new String[] {"a", "b", "c"}, 2, 0, 2, 1, 0).text(0), "a_c,an_a&a_b");
    }

    static void wordsAreDifferentByTheirNumbers() {
        check.is("<w>", words(new String[] {"pen", "pen"}, 0, 1).text(0), "a_pen&a_pen");
    }

    static void theWords0And9AreTold() {
        String[] words = {"a", "b", "c", "d", "e", "f", "g", "h", "i", "j*"};
        check.is("<w>", words(words, 9, 0, 9).text(0), "some_j&an_a");
    }

    static void theArticleIsAnAheadOfAVowelAlone() {
        for (char first = 'a'; first <= 'z'; first++) {
            String article = first == 'a' || first == 'e' || first == 'i' || first == 'o' || first == 'u' ? "an" : "a";
            check.is("<w> of " + first, words(new String[] {"" + first}, 0).text(0), article + "_" + first);
        }
    }

    static void theArticleLooksAtTheFirstLetterAlone() {
        check.is("<w> of pea", words(new String[] {"pea"}, 0).text(0), "a_pea");
        check.is("<w> of apt", words(new String[] {"apt"}, 0).text(0), "an_apt");
    }

    static void theArticleOfPluralIsSome() {
        check.is("<w> of a plural", words(new String[] {"pens*"}, 0).text(0), "some_pens");
        check.is("<w> of a plural with a vowel", words(new String[] {"eggs*"}, 0).text(0), "some_eggs");
    }

    // ---- <c>

    static void theNumberIsADigit() {
        String[] names = {"a", "b", "c", "d", "e", "f"};
        Mail mail = new Mail();
        mail.set(2, 6);
        mail.take("<c>");
        for (int number = 1; number <= 6; number++) {
            mail.addPerson(names[number - 1], 0, 0);
            check.is("<c> of " + number, mail.text(0), "" + number);
        }
    }

    static void theNumberIsThatOfTheLetterNotOfTheHousehold() {
        Mail mail = home("a", "b", "c", "d", "e");
        mail.set(2, 4);
        mail.take("<c>");
        check.is("<c> of the first letter", mail.text(0), "4");
        check.is("<c> of the second letter", mail.text(1), "1");
    }

    // ---- joint parts

    static void aJointPartIsNotThereForOne() {
        check.is("the text for one", textOf("a{b}c", home("ann")), "ac");
    }

    static void aJointPartIsThereForTwo() {
        check.is("the text for two", textOf("a{b}c", home("ann", "bob")), "abc");
    }

    static void aJointPartIsThereForSix() {
        check.is("the text for six", textOf("a{b}c", home("a", "b", "c", "d", "e", "f")), "abc");
    }

    static void aJointPartAloneIsEmptyForOne() {
        Mail mail = home("ann");
        check.is("the text for one", textOf("{<n>/<c>|}", mail), "");
        check.is("its length", mail.letter(0, 3), 0);
    }

    static void aJointPartsFieldsSpeakOfSeveral() {
        Mail mail = home("ann", "bob");
        check.is("the text for two", textOf("{<n>_<g>_<c>}", mail), "ann&bob_fs_2");
    }

    static void severalJointPartsComeOneBehindTheOther() {
        Mail mail = home("ann", "bob", "cyd");
        mail.move(2, 1);
        mail.take("{a}{b<c>}c{/}{d}");
        check.is("the text for two", mail.text(0), "ab2c/d");
        check.is("the text for one", mail.text(1), "c");
    }

    static void aJointPartFollowsTheLettersPersonsNotTheHousehold() {
        Mail mail = home("a", "b", "c");
        mail.set(2, 2);
        mail.take("{b}<n>");
        check.is("the text for two", mail.text(0), "ba&b");
        check.is("the text for the third", mail.text(1), "c");
        mail.set(2, 1);
        check.is("the text if each gets one", mail.text(0), "a");
    }

    static void aJointPartsItemsCount() {
        Mail mail = new Mail();
        check.is("fields", mail.take("{a<n><g>}{b}<c>"), 3);
        check.is("items", mail.count(13), 7);
    }
}
