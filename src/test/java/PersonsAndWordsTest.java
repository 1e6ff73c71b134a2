/** Terms, "Persons and words": each sentence's edges. */
public final class PersonsAndWordsTest {
    private static final Check check = new Check();

    public static void main(String[] args) {
        Tests.run(PersonsAndWordsTest.class, check);
    }

    static void atMost20Persons() {
        Mail mail = new Mail();
        for (int i = 0; i < 20; i++) {
            check.is("a person", mail.addPerson("p", 0, 0), i);
        }
        check.is("persons", mail.count(0), 20);
        mail.type("p");
        check.state("a 21st person", mail, () -> mail.addPerson(0, 0));
        check.is("persons then", mail.count(0), 20);
    }

    static void noPersonsAtFirst() {
        Mail mail = new Mail();
        check.is("persons", mail.count(0), 0);
        check.index("person(0, 0)", mail, () -> mail.person(0, 0));
    }

    static void personsAreNumberedAsTheyCame() {
        Mail mail = new Mail();
        for (int i = 0; i < 20; i++) {
            // Neither the names nor the addresses come in a rising order.
            check.is("a person's number", mail.addPerson("p" + (char) ('t' - i), 19 - i, i % 3), i);
        }
        for (int i = 0; i < 20; i++) {
            check.is("the name of " + i, mail.nameOf(i), "p" + (char) ('t' - i));
            check.is("the address of " + i, mail.person(i, 1), 19 - i);
            check.is("the form of " + i, mail.person(i, 2), i % 3);
        }
    }

    static void aNameHas1Letter() {
        Mail mail = new Mail();
        check.is("a name of one letter", mail.addPerson("k", 0, 0), 0);
        check.is("its letters", mail.person(0, 0), 1);
        check.is("the name", mail.nameOf(0), "k");
    }

    static void aNameHasNotNoLetters() {
        Mail mail = new Mail();
        check.argument("an empty name", mail, () -> mail.addPerson(0, 0));
        check.is("persons", mail.count(0), 0);
    }

    static void aNameHas8Letters() {
        Mail mail = new Mail();
        check.is("a name of 8 letters", mail.addPerson("hgfedcba", 0, 0), 0);
        check.is("its letters", mail.person(0, 0), 8);
        check.is("the name", mail.nameOf(0), "hgfedcba");
    }

    static void aNameHasNot9Letters() {
        Mail mail = new Mail().type("hgfedcbaz");
        check.argument("a name of 9 letters", mail, () -> mail.addPerson(0, 0));
        check.is("persons", mail.count(0), 0);
    }

    static void aNameHasTheLettersAToZ() {
        for (int code = 33; code <= 126; code++) {
            boolean letter = code >= 'a' && code <= 'z';
            for (String ahead : new String[] {"", "m", "mmmmmmm"}) {
                Mail mail = new Mail().type(ahead);
                mail.append(code);
                if (letter) {
                    check.is("a name with the sign " + code, mail.addPerson(0, 0), 0);
                    check.is("the sign", mail.name(0, ahead.length()), code);
                } else {
                    check.argument("a name with the sign " + code, mail, () -> mail.addPerson(0, 0));
                }
            }
        }
    }

    static void anAddressIs0To19() {
        Mail mail = new Mail();
        mail.addPerson("a", 0, 0);
        mail.addPerson("b", 19, 0);
        check.is("the least address", mail.person(0, 1), 0);
        check.is("the greatest address", mail.person(1, 1), 19);
        mail.type("c");
        check.argument("the address -1", mail, () -> mail.addPerson(-1, 0));
        check.argument("the address 20", mail, () -> mail.addPerson(20, 0));
    }

    static void aFormIs0To2() {
        Mail mail = new Mail();
        for (int form = 0; form <= 2; form++) {
            mail.addPerson("a", 0, form);
            check.is("the form", mail.person(form, 2), form);
        }
        mail.type("b");
        check.argument("the form -1", mail, () -> mail.addPerson(0, -1));
        check.argument("the form 3", mail, () -> mail.addPerson(0, 3));
    }

    static void aPersonHasNoWordAtFirst() {
        Mail mail = new Mail();
        mail.addWord("ink");
        mail.addPerson("ann", 0, 0);
        check.is("the word", mail.person(0, 3), -1);
    }

    static void aPersonHasAnyWordOrNone() {
        Mail mail = new Mail().addPersons(1, 0);
        for (int i = 0; i < 10; i++) {
            mail.addWord("w");
            mail.give(0, i);
            check.is("the word", mail.person(0, 3), i);
        }
        mail.give(0, HouseholdMail.NONE);
        check.is("no word", mail.person(0, 3), -1);
    }

    static void aPersonIsNotUnsubscribedAtFirst() {
        Mail mail = new Mail().addPersons(1, 0);
        check.is("unsubscribed", mail.person(0, 4), 0);
        check.is("persons who are", mail.count(12), 0);
        mail.unsubscribe(0, true);
        check.is("unsubscribed then", mail.person(0, 4), 1);
    }

    static void aPersonHadALetterOnNoDayAtFirst() {
        Mail mail = new Mail();
        mail.pass(5);
        mail.addPersons(1, 0);
        check.is("the day", mail.person(0, 5), -1);
        check.is("letters", mail.person(0, 6), 0);
    }

    static void aLetterOnTheDay0IsOne() {
        Mail mail = new Mail().addPersons(1, 0);
        mail.take("a");
        mail.send();
        check.is("the day", mail.person(0, 5), 0);
        check.is("letters", mail.person(0, 6), 1);
    }

    static void aNewPersonHasNothingOfAnUndoneOne() {
        Mail mail = new Mail();
        mail.addWord("ink");
        mail.take("a");
        mail.addPerson("abcdefgh", 19, 2);
        mail.give(0, 0);
        mail.send();
        mail.unsubscribe(0, true);
        for (int i = 0; i < 4; i++) {
            mail.undo();
        }
        mail.addPerson("z", 1, 1);
        int[] due = {1, 1, 1, -1, 0, -1, 0, 0, 0};
        for (int what = 0; what <= 8; what++) {
            check.is("the property " + what, mail.person(0, what), due[what]);
        }
        check.index("a letter of the undone name", mail, () -> mail.name(0, 1));
    }

    static void atMost10Words() {
        Mail mail = new Mail();
        for (int i = 0; i < 10; i++) {
            check.is("a word", mail.addWord("w"), i);
        }
        check.is("words", mail.count(1), 10);
        mail.type("w");
        check.state("an 11th word", mail, mail::addWord);
        check.is("words then", mail.count(1), 10);
    }

    static void noWordsAtFirst() {
        Mail mail = new Mail();
        check.is("words", mail.count(1), 0);
        check.index("word(0, 0)", mail, () -> mail.word(0, 0));
    }

    static void wordsAreNumberedFrom0() {
        Mail mail = new Mail();
        for (int i = 0; i < 10; i++) {
            check.is("a word's number", mail.addWord("w" + (char) ('j' - i) + (i % 2 == 0 ? "*" : "")), i);
        }
        for (int i = 0; i < 10; i++) {
            check.is("the letters of " + i, mail.lettersOf(i), "w" + (char) ('j' - i));
            check.is("plural of " + i, mail.word(i, 1), i % 2 == 0 ? 1 : 0);
        }
    }

    static void aWordHas1Letter() {
        Mail mail = new Mail();
        mail.addWord("k");
        mail.addWord("l*");
        check.is("its letters", mail.lettersOf(0), "k");
        check.is("its letters", mail.lettersOf(1), "l");
    }

    static void aWordHasNotNoLetters() {
        Mail mail = new Mail();
        check.argument("an empty word", mail, mail::addWord);
        mail.type("*");
        check.argument("an empty plural word", mail, mail::addWord);
        check.is("words", mail.count(1), 0);
    }

    static void aWordHas8Letters() {
        Mail mail = new Mail();
        mail.addWord("hgfedcba");
        mail.addWord("stuvwxyz*");
        check.is("its letters", mail.lettersOf(0), "hgfedcba");
        check.is("its letters", mail.lettersOf(1), "stuvwxyz");
    }

    static void aWordHasNot9Letters() {
        Mail single = new Mail().type("hgfedcbaz");
        check.argument("a word of 9 letters", single, single::addWord);
        Mail plural = new Mail().type("hgfedcbaz*");
        check.argument("a plural word of 9 letters", plural, plural::addWord);
    }

    static void aWordHasTheLettersAToZ() {
        for (int code = 33; code <= 126; code++) {
            boolean letter = code >= 'a' && code <= 'z';
            for (String ahead : new String[] {"", "m", "mmmmmmm"}) {
                // With "b" behind it a "*" would not end the word.
                for (String behind : new String[] {"*", "b"}) {
                    if (ahead.length() == 7 && behind.equals("b")) {
                        continue;
                    }
                    Mail mail = new Mail().type(ahead);
                    mail.append(code);
                    mail.type(behind);
                    if (letter) {
                        check.is("a word with the sign " + code, mail.addWord(), 0);
                        check.is("the sign", mail.word(0, 10 + ahead.length()), code);
                    } else {
                        check.argument("a word with the sign " + code, mail, mail::addWord);
                    }
                }
            }
        }
    }

    static void aWordMayBePlural() {
        Mail mail = new Mail();
        mail.addWord("oat");
        mail.addWord("oat*");
        check.is("plural", mail.word(0, 1), 0);
        check.is("plural", mail.word(1, 1), 1);
    }

    static void theDayIsAtFirst0() {
        check.is("the day", new Mail().count(3), 0);
    }
}
