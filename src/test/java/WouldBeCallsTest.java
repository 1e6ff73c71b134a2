import java.math.BigInteger;
import java.util.ArrayList;
import java.util.List;

/** Promises 23 to 28, what would be: the edges of each sentence, a test of its own for each. */
public final class WouldBeCallsTest {
    private static final int NONE = HouseholdMail.NONE;
    private static final int FAR = Check.FAR;
    private static final int DEEP = Check.DEEP;
    private static final Check check = new Check();

    public static void main(String[] args) {
        Tests.run(WouldBeCallsTest.class, check);
    }

    private static Mail persons(int number) {
        return new Mail().addPersons(number, 0);
    }

    private static Mail household(int number, String letter) {
        Mail mail = persons(number);
        mail.take(letter);
        return mail;
    }

    // ---- promise 23: ifSet

    static void promise23SettingIs0To5() {
        Mail mail = household(1, "a");
        check.is("ifSet(0, 5, 0)", mail.ifSet(0, 5, 0), 1);
        check.is("ifSet(5, 5, 0)", mail.ifSet(5, 5, 0), 1);
        check.index("ifSet(-1, 5, 0)", mail, () -> mail.ifSet(-1, 5, 0));
        check.index("ifSet(6, 5, 0)", mail, () -> mail.ifSet(6, 5, 0));
        check.index("ifSet(far, 5, 0)", mail, () -> mail.ifSet(FAR, 5, 0));
        check.index("ifSet(deep, 5, 0)", mail, () -> mail.ifSet(DEEP, 5, 0));
    }

    static void promise23ValueIsInTheRange() {
        int[][] ranges = {{5, 40}, {1, 20}, {1, 6}, {0, 30}, {1, 9}, {1, 20}};
        Mail mail = household(1, "a");
        for (int i = 0; i < 6; i++) {
            int setting = i;
            int least = ranges[i][0];
            int greatest = ranges[i][1];
            check.is("ifSet to the least", mail.ifSet(i, least, 0), 1);
            check.is("ifSet to the greatest", mail.ifSet(i, greatest, 0), 1);
            check.argument("below", mail, () -> mail.ifSet(setting, least - 1, 0));
            check.argument("above", mail, () -> mail.ifSet(setting, greatest + 1, 0));
            check.argument("far", mail, () -> mail.ifSet(setting, FAR, 0));
            check.argument("deep", mail, () -> mail.ifSet(setting, DEEP, 0));
        }
    }

    static void promise23WhatIs0To3() {
        Mail mail = household(1, "a");
        check.is("what 0", mail.ifSet(5, 20, 0), 1);
        check.is("what 3", mail.ifSet(5, 20, 3), 20);
        check.argument("what -1", mail, () -> mail.ifSet(5, 20, -1));
        check.argument("what 4", mail, () -> mail.ifSet(5, 20, 4));
        check.argument("what far", mail, () -> mail.ifSet(5, 20, FAR));
        check.argument("what deep", mail, () -> mail.ifSet(5, 20, DEEP));
    }

    static void promise23TheSettingComesFirst() {
        Mail mail = household(1, "a");
        check.index("with a bad value", mail, () -> mail.ifSet(6, 0, 0));
        check.index("with a bad what", mail, () -> mail.ifSet(-1, 5, 4));
    }

    private static void ifSet(Mail mail, int setting, int value, int letters, int persons, int pages, int postage) {
        String call = "ifSet(" + setting + ", " + value + ", ";
        check.is(call + "0)", mail.ifSet(setting, value, 0), letters);
        check.is(call + "1)", mail.ifSet(setting, value, 1), persons);
        check.is(call + "2)", mail.ifSet(setting, value, 2), pages);
        check.is(call + "3)", mail.ifSet(setting, value, 3), postage);
    }

    static void promise23IfNothingWasDifferent() {
        Mail mail = household(5, "a|{b|}c");
        ifSet(mail, 0, 20, 2, 5, 5, 20);
        ifSet(mail, 5, 4, 2, 5, 5, 20);
    }

    static void promise23IfTheWidthWasDifferent() {
        Mail mail = household(1, "a".repeat(40));
        mail.set(1, 1);
        mail.set(4, 2);
        ifSet(mail, 0, 40, 1, 1, 1, 4);
        ifSet(mail, 0, 39, 1, 1, 2, 8);
        ifSet(mail, 0, 20, 1, 1, 2, 8);
        ifSet(mail, 0, 19, 0, 0, 0, 0);
        ifSet(mail, 0, 5, 0, 0, 0, 0);
    }

    static void promise23IfTheLinesOfAPageWereDifferent() {
        Mail mail = household(1, "/".repeat(19));
        ifSet(mail, 1, 20, 1, 1, 1, 4);
        ifSet(mail, 1, 19, 1, 1, 2, 8);
        ifSet(mail, 1, 7, 1, 1, 3, 12);
        ifSet(mail, 1, 6, 0, 0, 0, 0);
        ifSet(mail, 1, 1, 0, 0, 0, 0);
    }

    static void promise23IfTheMostPersonsWereDifferent() {
        Mail mail = household(6, "a");
        ifSet(mail, 2, 1, 6, 6, 6, 24);
        ifSet(mail, 2, 5, 2, 6, 2, 8);
        ifSet(mail, 2, 6, 1, 6, 1, 4);
        mail.take("a{|||}");
        ifSet(mail, 2, 1, 6, 6, 6, 24);
        ifSet(mail, 2, 5, 1, 1, 1, 4);
        ifSet(mail, 2, 6, 0, 0, 0, 0);
    }

    static void promise23IfThePauseWasDifferent() {
        Mail mail = household(1, "a");
        mail.send();
        ifSet(mail, 3, 0, 1, 1, 1, 4);
        ifSet(mail, 3, 1, 0, 0, 0, 0);
        mail.pass(29);
        ifSet(mail, 3, 29, 1, 1, 1, 4);
        ifSet(mail, 3, 30, 0, 0, 0, 0);
    }

    static void promise23IfTheMostPagesWereDifferent() {
        Mail mail = household(1, "|".repeat(8));
        ifSet(mail, 4, 9, 1, 1, 9, 36);
        ifSet(mail, 4, 8, 0, 0, 0, 0);
        mail.take("a");
        ifSet(mail, 4, 1, 1, 1, 1, 4);
    }

    static void promise23IfThePostageWasDifferent() {
        Mail mail = household(1, "|");
        ifSet(mail, 5, 1, 1, 1, 2, 2);
        ifSet(mail, 5, 20, 1, 1, 2, 40);
    }

    static void promise23WithoutPersons() {
        Mail mail = new Mail();
        ifSet(mail, 0, 5, 0, 0, 0, 0);
    }

    static void promise23ChangesNothing() {
        Mail mail = household(5, "a|{b|}c");
        long before = mail.digest();
        int[] values = {5, 1, 1, 0, 1, 20};
        for (int i = 0; i < 6; i++) {
            mail.ifSet(i, values[i], 0);
            check.is("the digest", mail.digest(), before);
        }
        for (int i = 0; i < 5; i++) {
            check.is("the reason of " + i, mail.person(i, 8), 0);
        }
    }

    // ---- promise 24: bestJoin

    static void promise24ForNobodyTheLeast() {
        check.is("without persons", new Mail().bestJoin(), 1);
        Mail mail = household(3, "|||");
        check.is("nothing would be sent", mail.bestJoin(), 1);
    }

    static void promise24ForOneTheLeast() {
        check.is("for one", household(1, "a").bestJoin(), 1);
    }

    static void promise24EachAtAnotherAddressTheLeast() {
        Mail mail = new Mail();
        mail.take("a");
        for (int i = 0; i < 6; i++) {
            mail.addPerson("p", i, 0);
        }
        check.is("each alone", mail.bestJoin(), 1);
    }

    static void promise24TheGreatest() {
        check.is("for six", household(6, "a").bestJoin(), 6);
        check.is("for five", household(5, "a").bestJoin(), 5);
        check.is("for two", household(2, "a").bestJoin(), 2);
    }

    static void promise24TheLeastPostage() {
        // By 1 to 6: 7, 4, 3, 2, 2 and 2 letters.
        check.is("for seven", household(7, "a").bestJoin(), 4);
        // 20, 10, 7, 5, 4 and 4 letters.
        check.is("for twenty", household(20, "a").bestJoin(), 5);
        // 13, 7, 5, 4, 3 and 3 letters.
        check.is("for thirteen", household(13, "a").bestJoin(), 5);
    }

    static void promise24MostPersonsAheadOfThePostage() {
        // Joint letters are too long, so that by 2 or more just a person who is left over is written to.
        check.is("all alone", household(7, "a{|||}").bestJoin(), 1);
        Mail mail = household(3, "<n>");
        mail.set(0, 5);
        mail.set(1, 1);
        mail.set(4, 1);
        // "a,b&c" is as long as the width.
        check.is("three fit", mail.bestJoin(), 3);
        mail.addPerson("d", 0, 0);
        // By 3 there are "a,b&c" and "d", by 4 nothing is sent; by 2 there are two letters as well.
        check.is("two and two, as cheap as three and one", mail.bestJoin(), 2);
    }

    static void promise24WhateverIsSet() {
        Mail mail = household(7, "a");
        for (int joined = 1; joined <= 6; joined++) {
            mail.set(2, joined);
            check.is("bestJoin", mail.bestJoin(), 4);
            check.is("the setting stays", mail.setting(2), joined);
        }
    }

    static void promise24LooksAtTheOtherSettings() {
        Mail mail = household(2, "a{|}");
        check.is("2 pages together cost as much as 2 letters", mail.bestJoin(), 1);
        mail.take("a|b{|}");
        check.is("3 pages together cost less than 2 letters of 2", mail.bestJoin(), 2);
        mail.set(4, 2);
        check.is("3 pages are too many", mail.bestJoin(), 1);
    }

    static void promise24AnEmptyLetterCounts() {
        check.is("for six", persons(6).bestJoin(), 6);
    }

    // ---- promise 25: narrowest

    static void promise25ForNobodyTheLeast() {
        check.is("without persons", new Mail().narrowest(), 5);
        check.is("nothing would be sent", household(1, "|||").narrowest(), 5);
        check.is("an empty letter", persons(1).narrowest(), 5);
    }

    private static void narrowest(String text, int due) {
        Mail mail = household(1, text);
        mail.set(1, 1);
        check.is("narrowest for " + text, mail.narrowest(), due);
        mail.set(4, 1);
        check.is("narrowest for " + text + " on a page", mail.narrowest(), due);
    }

    static void promise25TheLeast() {
        narrowest("abcd", 5);
        narrowest("abcde", 5);
        narrowest("abcdef", 6);
    }

    static void promise25TheGreatest() {
        narrowest("a".repeat(38), 38);
        narrowest("a".repeat(39), 39);
        narrowest("a".repeat(40), 40);
        narrowest("a".repeat(20) + "_" + "a".repeat(19), 40);
    }

    static void promise25By41NothingIsTold() {
        Mail mail = household(1, "a".repeat(41));
        mail.set(1, 1);
        check.is("two pages by 21 as by 40", mail.narrowest(), 21);
        mail.set(4, 1);
        check.is("not sent by 40, nor by 5", mail.narrowest(), 5);
    }

    static void promise25AsManyPages() {
        Mail mail = household(1, "a".repeat(26));
        check.is("6 lines by 5 are two pages", mail.narrowest(), 6);
        mail.take("a".repeat(25));
        check.is("5 lines by 5 are one page", mail.narrowest(), 5);
    }

    static void promise25AsManyLettersAndPagesTogether() {
        Mail mail = new Mail();
        mail.addPerson("abc", 0, 0);
        mail.addPerson("abcdefgh", 1, 0);
        mail.take("<n><n>");
        mail.set(1, 1);
        mail.set(4, 2);
        // By 40 two letters of a page; by 5 one of two pages; by 8 one of one page and one of two.
        check.is("narrowest", mail.narrowest(), 16);
    }

    static void promise25WhateverIsSet() {
        Mail mail = household(1, "abcdefg");
        mail.set(1, 1);
        for (int width = 5; width <= 40; width += 5) {
            mail.set(0, width);
            check.is("narrowest", mail.narrowest(), 7);
            check.is("the setting stays", mail.setting(0), width);
        }
    }

    static void promise25LooksAtReadyPersonsAlone() {
        Mail mail = new Mail();
        mail.addPerson("abcdefgh", 0, 0);
        mail.addPerson("abcdef", 1, 0);
        mail.take("<n>");
        mail.set(1, 1);
        check.is("with both", mail.narrowest(), 8);
        mail.unsubscribe(0, true);
        check.is("without the longer name", mail.narrowest(), 6);
    }

    // ---- promise 26: readyIn

    static void promise26PersonIsThere() {
        Mail mail = persons(3);
        check.is("the first", mail.readyIn(0), 0);
        check.is("the last", mail.readyIn(2), 0);
        check.index("readyIn(-1)", mail, () -> mail.readyIn(-1));
        check.index("readyIn(3)", mail, () -> mail.readyIn(3));
        check.index("readyIn(far)", mail, () -> mail.readyIn(FAR));
        check.index("readyIn(deep)", mail, () -> mail.readyIn(DEEP));
    }

    static void promise26The20thPerson() {
        Mail mail = persons(20);
        check.is("the 20th", mail.readyIn(19), 0);
        check.index("a 21st", mail, () -> mail.readyIn(20));
    }

    static void promise26NowIfNothingIsAgainst() {
        Mail mail = household(1, "a");
        mail.set(3, 30);
        check.is("no letter so far", mail.readyIn(0), 0);
    }

    static void promise26AfterThePause() {
        Mail mail = household(1, "a");
        mail.send();
        check.is("on the same day", mail.readyIn(0), 7);
        mail.pass(6);
        check.is("6 days later", mail.readyIn(0), 1);
        mail.pass(1);
        check.is("7 days later", mail.readyIn(0), 0);
        mail.pass(1);
        check.is("8 days later", mail.readyIn(0), 0);
    }

    static void promise26WithTheShortestPauses() {
        Mail mail = household(1, "a");
        mail.send();
        mail.set(3, 0);
        check.is("no pause", mail.readyIn(0), 0);
        mail.set(3, 1);
        check.is("a pause of one day", mail.readyIn(0), 1);
    }

    static void promise26WithTheLongestPause() {
        Mail mail = household(1, "a");
        mail.send();
        mail.set(3, 30);
        check.is("a pause of 30 days", mail.readyIn(0), 30);
        mail.pass(30);
        check.is("30 days later", mail.readyIn(0), 0);
    }

    static void promise26NeverIfUnsubscribed() {
        Mail mail = household(1, "a");
        mail.unsubscribe(0, true);
        check.is("unsubscribed", mail.readyIn(0), NONE);
        mail.unsubscribe(0, false);
        mail.send();
        mail.unsubscribe(0, true);
        check.is("unsubscribed in the pause", mail.readyIn(0), NONE);
    }

    static void promise26NeverWithoutAWord() {
        Mail mail = household(1, "<w>");
        check.is("without a word", mail.readyIn(0), NONE);
        mail.take("{<w>}");
        check.is("without a word for a joint part", mail.readyIn(0), NONE);
        mail.addWord("ink");
        mail.give(0, 0);
        check.is("with a word", mail.readyIn(0), 0);
    }

    static void promise26Reason4IsNotAgainst() {
        Mail mail = household(1, "|||");
        check.is("the reason", mail.person(0, 8), 4);
        check.is("too many pages", mail.readyIn(0), 0);
    }

    static void promise26TellsEachPersonApart() {
        Mail mail = household(1, "a");
        mail.send();
        mail.addPerson("b", 0, 0);
        check.is("who had one", mail.readyIn(0), 7);
        check.is("who had none", mail.readyIn(1), 0);
    }

    static void promise26CountsDaysBeyondTheLastDay() {
        Mail mail = household(1, "a");
        for (int i = 0; i < 100; i++) {
            mail.pass(100);
        }
        mail.send();
        check.is("on the day 10000", mail.readyIn(0), 7);
    }

    static void promise26PassesNoDays() {
        Mail mail = household(1, "a");
        mail.send();
        long before = mail.digest();
        mail.readyIn(0);
        check.is("the digest", mail.digest(), before);
    }

    // ---- promise 27: share

    static void promise27WithoutPersonsIs0() {
        check.is("share", new Mail().share(), 0.0);
    }

    static void promise27OfNobodyIs0() {
        check.is("share", household(2, "|||").share(), 0.0);
    }

    static void promise27OfAllIs1() {
        check.is("of one", household(1, "a").share(), 1.0);
        check.is("of 20", household(20, "a").share(), 1.0);
    }

    static void promise27OfSome() {
        Mail mail = household(20, "a");
        for (int i = 0; i < 20; i++) {
            check.is("share", mail.share(), (20 - i) / 20.0);
            mail.unsubscribe(i, true);
        }
        check.is("share of none", mail.share(), 0.0);
    }

    static void promise27IsNotRoundedDown() {
        Mail mail = household(3, "a");
        mail.unsubscribe(0, true);
        check.is("two of three", mail.share(), 2.0 / 3.0);
        mail.unsubscribe(1, true);
        check.is("one of three", mail.share(), 1.0 / 3.0);
    }

    static void promise27LeavesOutLettersThatAreTooLong() {
        Mail mail = household(5, "a{|||}");
        check.is("one of five", mail.share(), 0.2);
    }

    // ---- promise 28: digest

    private interface Setup {
        Mail make();
    }

    /** Objects that are all made alike, one after the other, so that more than 512 calls can be asked of them. */
    private static final class Twins {
        private final Setup setup;
        private Mail mail;

        Twins(Setup setup) {
            this.setup = setup;
        }

        Mail next() {
            if (mail == null || mail.calls() >= Mail.MOST_CALLS) {
                mail = setup.make();
            }
            return mail;
        }
    }

    /** The values in the order of promise 28, got from the other calls. */
    private static List<Long> values(Twins twins, String buffer) {
        List<Long> values = new ArrayList<>();
        for (int what = 0; what <= 14; what++) {
            values.add((long) twins.next().count(what));
        }
        for (int setting = 0; setting <= 5; setting++) {
            values.add((long) twins.next().setting(setting));
        }
        int persons = twins.next().count(0);
        for (int i = 0; i < persons; i++) {
            for (int what = 0; what <= 8; what++) {
                values.add((long) twins.next().person(i, what));
            }
            int length = twins.next().person(i, 0);
            for (int place = 0; place < length; place++) {
                values.add((long) twins.next().name(i, place));
            }
            values.add((long) twins.next().readyIn(i));
        }
        addWords(values, twins);
        addLetters(values, twins);
        values.add((long) twins.next().bestJoin());
        values.add((long) twins.next().narrowest());
        values.add(Double.doubleToLongBits(twins.next().share()));
        values.add((long) buffer.length());
        for (char sign : buffer.toCharArray()) {
            values.add((long) sign);
        }
        return values;
    }

    private static void addWords(List<Long> values, Twins twins) {
        int words = twins.next().count(1);
        for (int i = 0; i < words; i++) {
            for (int what = 0; what <= 3; what++) {
                values.add((long) twins.next().word(i, what));
            }
            for (int what = 10; what <= 17; what++) {
                values.add((long) twins.next().word(i, what));
            }
        }
    }

    private static void addLetters(List<Long> values, Twins twins) {
        int letters = twins.next().count(4);
        for (int i = 0; i < letters; i++) {
            for (int what = 0; what <= 7; what++) {
                values.add((long) twins.next().letter(i, what));
            }
            values.add((long) twins.next().members(i));
            int length = twins.next().letter(i, 3);
            for (int place = 0; place < length; place++) {
                values.add((long) twins.next().sign(i, place));
            }
        }
    }

    /** The hash without an overflow. */
    private static BigInteger hashOf(List<Long> values) {
        BigInteger hash = BigInteger.valueOf(2377);
        for (long value : values) {
            hash = hash.multiply(BigInteger.valueOf(31)).add(BigInteger.valueOf(value));
        }
        return hash;
    }

    /** What is left of it in a long. */
    private static void digestIs(String what, Setup setup, String buffer) {
        check.is(what, setup.make().digest(), hashOf(values(new Twins(setup), buffer)).longValue());
    }

    static void promise28OfANewObject() {
        List<Long> values = new ArrayList<>();
        long[] told = {0, 0, 0, 0, 0, 0, 0, 0, 0, 0, 0, 0, 0, 0, 0, 20, 5, 4, 7, 3, 4, 1, 5, 0, 0};
        for (long value : told) {
            values.add(value);
        }
        check.is("digest", new Mail().digest(), hashOf(values).longValue());
    }

    static void promise28Overflows() {
        BigInteger hash = hashOf(values(new Twins(Mail::new), ""));
        check.is("the hash fits into a long", hash.bitLength() < 64 ? 1 : 0, 0);
        check.is("digest", new Mail().digest(), hash.mod(BigInteger.ONE.shiftLeft(64)).longValue());
    }

    static void promise28OverflowsToBothSides() {
        boolean below = false;
        boolean above = false;
        Mail mail = new Mail();
        for (int i = 0; i < 100; i++) {
            long digest = mail.digest();
            below = below || digest < 0;
            above = above || digest > 0;
            mail.pass(1);
        }
        check.is("some digest is below 0", below ? 1 : 0, 1);
        check.is("some digest is above 0", above ? 1 : 0, 1);
    }

    static void promise28WithOnePerson() {
        digestIs("digest", () -> persons(1), "");
    }

    static void promise28WithOneWord() {
        digestIs("digest of a", () -> {
            Mail mail = new Mail();
            mail.addWord("a");
            return mail;
        }, "");
        digestIs("digest of abcdefgh*", () -> {
            Mail mail = new Mail();
            mail.addWord("abcdefgh*");
            return mail;
        }, "");
    }

    static void promise28WithAFullBuffer() {
        digestIs("digest of one character", () -> new Mail().type("~"), "~");
        String text = "!a*<{" + "b".repeat(54) + "~";
        digestIs("digest of 60 characters", () -> new Mail().type(text), text);
    }

    static void promise28OfAllThatThereCanBe() {
        String buffer = "z".repeat(60);
        digestIs("digest", () -> {
            Mail mail = new Mail();
            for (int i = 0; i < 10; i++) {
                mail.addWord("w" + (char) ('a' + i) + "*");
            }
            for (int i = 0; i < 20; i++) {
                mail.addPerson("p" + (char) ('a' + i), i / 7, i % 3);
                mail.give(i, i / 2);
            }
            mail.take("<n>_<g>{_<c>}/<w>|{a|b}");
            mail.unsubscribe(19, true);
            mail.set(4, 9);
            mail.pass(30);
            return mail.type(buffer);
        }, buffer);
    }

    static void promise28OfLettersThatWereSent() {
        digestIs("digest", () -> {
            Mail mail = household(7, "<n>{|}|");
            mail.set(0, 5);
            mail.pass(3);
            mail.send();
            mail.pass(2);
            mail.addPerson("abcdefgh", 19, 2);
            return mail;
        }, "");
    }

    static void promise28OfEachShare() {
        for (int all : new int[] {1, 3, 7, 17, 20}) {
            for (int out = 0; out <= all; out++) {
                int unsubscribed = out;
                digestIs("digest of " + (all - out) + " of " + all, () -> {
                    Mail mail = persons(all);
                    for (int i = 0; i < unsubscribed; i++) {
                        mail.unsubscribe(i, true);
                    }
                    return mail;
                }, "");
            }
        }
    }

    static void promise28TellsEachChange() {
        Mail mail = household(2, "a");
        mail.addWord("ink");
        mail.addWord("pen");
        long before = mail.digest();
        mail.move(1, 1);
        check.isNot("digest behind move", mail.digest(), before);
        mail.undo();
        mail.give(1, 1);
        check.isNot("digest behind give", mail.digest(), before);
        mail.undo();
        mail.set(5, 5);
        check.isNot("digest behind set", mail.digest(), before);
        mail.undo();
        mail.append('a');
        check.isNot("digest behind append", mail.digest(), before);
        mail.clearBuffer();
        check.is("digest behind clearBuffer", mail.digest(), before);
    }

    static void promise28ChangesNothing() {
        Mail mail = household(2, "a").type("b");
        check.is("digest again", mail.digest(), mail.digest());
    }
}
