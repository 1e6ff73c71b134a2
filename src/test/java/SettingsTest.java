/** Terms, "Settings": each setting's first, least and greatest value, and what is just outside. */
public final class SettingsTest {
    private static final Check check = new Check();

    public static void main(String[] args) {
        Tests.run(SettingsTest.class, check);
    }

    private static void range(int setting, int least, int greatest) {
        Mail mail = new Mail();
        mail.set(setting, least);
        check.is("the least value", mail.setting(setting), least);
        mail.set(setting, greatest);
        check.is("the greatest value", mail.setting(setting), greatest);
        check.argument("below the least value", mail, () -> mail.set(setting, least - 1));
        check.argument("above the greatest value", mail, () -> mail.set(setting, greatest + 1));
        check.argument("far below", mail, () -> mail.set(setting, Check.DEEP));
        check.argument("far above", mail, () -> mail.set(setting, Check.FAR));
        check.is("the value then", mail.setting(setting), greatest);
    }

    /** Every value of the range, and no other setting is changed by it. */
    private static void eachValue(int setting, int least, int greatest) {
        Mail mail = new Mail();
        int[] others = new int[6];
        for (int i = 0; i < 6; i++) {
            others[i] = mail.setting(i);
        }
        for (int value = least; value <= greatest; value++) {
            mail.set(setting, value);
            for (int i = 0; i < 6; i++) {
                check.is("the setting " + i, mail.setting(i), i == setting ? value : others[i]);
            }
        }
    }

    static void theWidthIsAtFirst20() {
        check.is("the width", new Mail().setting(0), 20);
    }

    static void theWidthIs5To40() {
        range(0, 5, 40);
        eachValue(0, 5, 40);
    }

    static void theLinesOfAPageAreAtFirst5() {
        check.is("lines of a page", new Mail().setting(1), 5);
    }

    static void theLinesOfAPageAre1To20() {
        range(1, 1, 20);
        eachValue(1, 1, 20);
    }

    static void theMostPersonsOfALetterAreAtFirst4() {
        check.is("the most persons", new Mail().setting(2), 4);
    }

    static void theMostPersonsOfALetterAre1To6() {
        range(2, 1, 6);
        eachValue(2, 1, 6);
    }

    static void thePauseIsAtFirst7() {
        check.is("the pause", new Mail().setting(3), 7);
    }

    static void thePauseIs0To30() {
        range(3, 0, 30);
        eachValue(3, 0, 30);
    }

    static void theMostPagesAreAtFirst3() {
        check.is("the most pages", new Mail().setting(4), 3);
    }

    static void theMostPagesAre1To9() {
        range(4, 1, 9);
        eachValue(4, 1, 9);
    }

    static void thePostageIsAtFirst4() {
        check.is("the postage", new Mail().setting(5), 4);
    }

    static void thePostageIs1To20() {
        range(5, 1, 20);
        eachValue(5, 1, 20);
    }

    static void theFirstValuesAreThoseThatCount() {
        Mail mail = new Mail().addPersons(5, 0);
        check.is("the first letter's persons", mail.letter(0, 1), 4);
        mail.take("a".repeat(19) + "_/" + "b".repeat(20));
        check.is("lines by 20", mail.letter(0, 4), 2);
        mail.take("////");
        check.is("a page of 5 lines", mail.letter(0, 5), 1);
        mail.take("/////");
        check.is("a page of 5 lines, and one more", mail.letter(0, 5), 2);
        check.is("the postage of two pages", mail.letter(0, 6), 8);
        mail.take("||");
        check.is("three pages are sent", mail.send(), 2);
        check.is("the pause", mail.readyIn(0), 7);
        mail.take("|||");
        mail.pass(7);
        check.is("four pages are not", mail.count(5), 0);
    }
}
