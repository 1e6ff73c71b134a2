/** Terms, "Households": each sentence's edges. */
public final class HouseholdsTest {
    private static final Check check = new Check();

    public static void main(String[] args) {
        Tests.run(HouseholdsTest.class, check);
    }

    private static Mail atHome(int... addresses) {
        Mail mail = new Mail();
        for (int i = 0; i < addresses.length; i++) {
            mail.addPerson("" + (char) ('a' + i), addresses[i], 0);
        }
        return mail;
    }

    /** The letters have just these members, as bit masks. */
    private static void lettersAre(String what, Mail mail, int... masks) {
        check.is("letters, " + what, mail.count(4), masks.length);
        for (int i = 0; i < masks.length; i++) {
            check.is("members(" + i + "), " + what, mail.members(i), masks[i]);
        }
        check.index("one letter more, " + what, mail, () -> mail.members(masks.length));
    }

    // ---- the reasons 1 to 3

    static void aPersonWithNothingAgainstIsReady() {
        Mail mail = atHome(0);
        check.is("the reason", mail.person(0, 8), 0);
        check.is("the letter", mail.person(0, 7), 0);
    }

    static void reason1() {
        Mail mail = atHome(0);
        mail.unsubscribe(0, true);
        check.is("the reason", mail.person(0, 8), 1);
        check.is("the letter", mail.person(0, 7), -1);
        mail.unsubscribe(0, false);
        check.is("the reason then", mail.person(0, 8), 0);
    }

    static void reason2LessThanThePauseAgo() {
        Mail mail = atHome(0);
        mail.take("a");
        mail.pass(3);
        mail.send();
        check.is("on the same day", mail.person(0, 8), 2);
        mail.pass(6);
        check.is("6 days later", mail.person(0, 8), 2);
        check.is("no letter", mail.person(0, 7), -1);
        mail.pass(1);
        check.is("7 days later", mail.person(0, 8), 0);
        check.is("a letter", mail.person(0, 7), 0);
    }

    static void reason2WithoutAPause() {
        Mail mail = atHome(0);
        mail.take("a");
        mail.send();
        mail.set(3, 1);
        check.is("a pause of one day", mail.person(0, 8), 2);
        mail.set(3, 0);
        check.is("no pause", mail.person(0, 8), 0);
    }

    static void reason2WithTheLongestPause() {
        Mail mail = atHome(0);
        mail.take("a");
        mail.send();
        mail.set(3, 30);
        mail.pass(29);
        check.is("29 days later", mail.person(0, 8), 2);
        mail.pass(1);
        check.is("30 days later", mail.person(0, 8), 0);
    }

    static void reason2NotWithoutALetter() {
        Mail mail = atHome(0);
        mail.set(3, 30);
        check.is("no letter so far, on the day 0", mail.person(0, 8), 0);
        mail.pass(1);
        check.is("no letter so far, on the day 1", mail.person(0, 8), 0);
    }

    static void reason2IsThatOfThePersonAlone() {
        Mail mail = atHome(0);
        mail.take("a");
        mail.send();
        mail.addPerson("b", 0, 0);
        lettersAre("one had a letter", mail, 2);
    }

    static void reason3() {
        Mail mail = atHome(0);
        mail.addWord("ink");
        mail.take("<n><g><c>w");
        check.is("a letter without <w>", mail.person(0, 8), 0);
        mail.take("<w>");
        check.is("a letter with <w>", mail.person(0, 8), 3);
        check.is("no letter", mail.person(0, 7), -1);
        mail.give(0, 0);
        check.is("with the word 0", mail.person(0, 8), 0);
    }

    static void reason3ForAJointPart() {
        Mail mail = atHome(0);
        mail.take("a{b<w>}");
        check.is("<w> in a joint part, though for one", mail.person(0, 8), 3);
        mail.take("a{b<n>}w");
        check.is("another field in a joint part", mail.person(0, 8), 0);
    }

    static void reason3ForTheLastField() {
        Mail mail = atHome(0);
        mail.take("a".repeat(57) + "<w>");
        check.is("<w> at the end of 60 characters", mail.person(0, 8), 3);
    }

    static void reason3NotForAnEmptyLetter() {
        check.is("an empty letter", atHome(0).person(0, 8), 0);
    }

    static void aPersonWithAReasonIsInNoGroup() {
        Mail mail = atHome(0, 0, 0, 0, 0, 0, 0);
        mail.addWord("ink");
        mail.take("a");
        mail.unsubscribe(1, true);
        mail.set(2, 2);
        lettersAre("without the second person", mail, 0b101, 0b11000, 0b1100000);
    }

    // ---- households and groups

    static void noPersonsNoLetters() {
        lettersAre("without persons", new Mail());
    }

    static void noReadyPersonsNoLetters() {
        Mail mail = atHome(0, 1);
        mail.unsubscribe(0, true);
        mail.unsubscribe(1, true);
        lettersAre("nobody is ready", mail);
    }

    static void oneAddressIsOneHousehold() {
        lettersAre("two at the address 0", atHome(0, 0), 3);
        lettersAre("two at the address 19", atHome(19, 19), 3);
    }

    static void twoAddressesAreTwoHouseholds() {
        lettersAre("at 0 and at 1", atHome(0, 1), 1, 2);
        lettersAre("at 18 and at 19", atHome(18, 19), 1, 2);
        lettersAre("at 0 and at 19", atHome(0, 19), 1, 2);
    }

    static void twentyHouseholds() {
        Mail mail = new Mail();
        for (int i = 0; i < 20; i++) {
            mail.addPerson("p", 19 - i, 0);
        }
        check.is("letters", mail.count(4), 20);
        for (int i = 0; i < 20; i++) {
            check.is("members", mail.members(i), 1 << i);
            check.is("the address", mail.letter(i, 2), 19 - i);
        }
    }

    static void aHouseholdAsLargeAsAGroup() {
        lettersAre("four", atHome(0, 0, 0, 0), 0b1111);
    }

    static void aHouseholdLargerThanAGroupByOne() {
        lettersAre("five", atHome(0, 0, 0, 0, 0), 0b1111, 0b10000);
    }

    static void aHouseholdSmallerThanAGroup() {
        lettersAre("three", atHome(0, 0, 0), 0b111);
    }

    static void aHouseholdOfTwoFullGroups() {
        lettersAre("eight", atHome(0, 0, 0, 0, 0, 0, 0, 0), 0b1111, 0b11110000);
    }

    static void groupsOfOne() {
        Mail mail = atHome(0, 0, 0);
        mail.set(2, 1);
        lettersAre("each alone", mail, 1, 2, 4);
    }

    static void groupsOfSix() {
        Mail mail = new Mail().addPersons(20, 7);
        mail.set(2, 6);
        lettersAre("20 by 6", mail, 0x3f, 0xfc0, 0x3f000, 0xc0000);
    }

    static void groupsAreInTheOrderOfTheNumbers() {
        Mail mail = atHome(0, 0, 0, 0);
        mail.set(2, 2);
        mail.move(0, 1);
        mail.move(0, 0);
        lettersAre("whoever came back", mail, 0b11, 0b1100);
    }

    static void lettersAreInTheOrderOfTheirFirstPersons() {
        Mail mail = atHome(9, 3, 9, 3, 9, 3);
        mail.set(2, 2);
        lettersAre("two households by turns", mail, 0b101, 0b1010, 0b10000, 0b100000);
    }

    static void aSecondGroupCanComeAheadOfAnotherHousehold() {
        Mail mail = atHome(5, 5, 5, 1, 5);
        mail.set(2, 2);
        lettersAre("the other household came later", mail, 0b11, 0b10100, 0b1000);
    }

    static void aHouseholdCanComeAheadOfASecondGroup() {
        Mail mail = atHome(5, 1, 5, 5, 1);
        mail.set(2, 2);
        lettersAre("the other household came first", mail, 0b101, 0b10010, 0b1000);
    }

    static void eachPersonIsToldTheLetter() {
        Mail mail = atHome(5, 1, 5, 5, 1);
        mail.set(2, 2);
        int[] due = {0, 1, 0, 2, 1};
        for (int i = 0; i < due.length; i++) {
            check.is("the letter of " + i, mail.person(i, 7), due[i]);
        }
    }
}
