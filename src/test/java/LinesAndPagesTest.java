/** Terms, "Lines and pages": each sentence's edges. */
public final class LinesAndPagesTest {
    private static final Check check = new Check();

    public static void main(String[] args) {
        Tests.run(LinesAndPagesTest.class, check);
    }

    private static Mail forOne() {
        Mail mail = new Mail();
        mail.addPerson("ann", 0, 0);
        return mail;
    }

    /** A letter to one person, by a width, and so many lines a page. */
    private static Mail laidOut(String text, int width, int pageLines) {
        Mail mail = forOne();
        mail.take(text);
        mail.set(0, width);
        mail.set(1, pageLines);
        return mail;
    }

    private static void lines(String text, int width, int due) {
        check.is("lines of " + text + " by " + width, laidOut(text, width, 20).letter(0, 4), due);
    }

    private static void pages(String text, int pageLines, int due) {
        check.is("pages of " + text + " by " + pageLines, laidOut(text, 5, pageLines).letter(0, 5), due);
    }

    // ---- parts, paragraphs and pieces, which can be empty

    static void anEmptyTextIsOneLineOnOnePage() {
        Mail mail = forOne();
        check.is("its length", mail.letter(0, 3), 0);
        check.is("its lines", mail.letter(0, 4), 1);
        check.is("its pages", mail.letter(0, 5), 1);
        mail.take("{a}");
        check.is("the lines of a joint part that is not there", mail.letter(0, 4), 1);
        check.is("its pages", mail.letter(0, 5), 1);
    }

    static void emptyPartsHaveALineAndAPage() {
        lines("|", 5, 2);
        pages("|", 20, 2);
        lines("||", 5, 3);
        pages("||", 20, 3);
        lines("a|", 5, 2);
        pages("a|", 20, 2);
        lines("|a", 5, 2);
        pages("|a", 20, 2);
    }

    static void emptyParagraphsHaveALine() {
        lines("/", 5, 2);
        lines("//", 5, 3);
        lines("a/", 5, 2);
        lines("/a", 5, 2);
        lines("a//b", 5, 3);
        lines("/|/", 5, 4);
    }

    static void anEmptyPieceIsTheFirstOneOfItsLine() {
        // A blank and 4 signs are 5; "" with a blank and 5 signs are 6.
        lines("_abcd", 5, 1);
        lines("_abcde", 5, 2);
        lines("/_abcd", 5, 2);
        lines("/_abcde", 5, 3);
        lines("|_abcd", 5, 2);
        lines("|_abcde", 5, 3);
    }

    static void anEmptyPieceTakesItsBlank() {
        lines("abcd_", 5, 1);
        lines("abcde_", 5, 2);
        lines("abcd_/a", 5, 2);
        lines("abcde_/a", 5, 3);
        lines("a__bc", 5, 1);
        lines("a__bcd", 5, 2);
    }

    static void emptyPiecesAloneFillALine() {
        lines("_", 5, 1);
        lines("_____", 5, 1);
        lines("______", 5, 2);
        // The 7th piece is the first one of the 2nd line, which it and 5 more fill.
        lines("___________", 5, 2);
        lines("____________", 5, 3);
    }

    static void anEmptyPieceThatBeganALineIsItsFirst() {
        lines("abcde__abcd", 5, 2);
        lines("abcde__abcde", 5, 3);
    }

    // ---- pieces that are longer than the width

    static void aPieceOfTheWidthIsOneLine() {
        lines("abcde", 5, 1);
        lines("a".repeat(40), 40, 1);
    }

    static void aPieceLongerThanTheWidthByOneIsCut() {
        lines("abcdef", 5, 2);
        lines("a".repeat(41), 40, 2);
    }

    static void aPieceOfTwoWidthsHasNoRest() {
        lines("abcdefghij", 5, 2);
        // Behind it there is no room for a blank.
        lines("abcdefghij_", 5, 3);
    }

    static void aPieceOfTwoWidthsAndOneHasARest() {
        lines("abcdefghijk", 5, 3);
    }

    static void aPieceOfSixtySigns() {
        lines("a".repeat(60), 5, 12);
        lines("a".repeat(60), 20, 3);
        lines("a".repeat(60), 40, 2);
    }

    static void aRestSharesItsLine() {
        // "f" with a blank and 3 signs are 5, with a blank and 4 signs 6.
        lines("abcdef_ghi", 5, 2);
        lines("abcdef_ghij", 5, 3);
        lines("abcdefghi_", 5, 2);
    }

    static void aCutPieceBeginsNewLinesBehindAnother() {
        lines("a_bcdefg", 5, 3);
        lines("a_bcdefghijkl", 5, 4);
    }

    static void aCutPieceBehindAnEmptyOneBeginsANewLine() {
        lines("_abcdef", 5, 3);
        lines("_abcdefghij", 5, 3);
    }

    static void aCutIsFromTheBeginning() {
        // Were the rest "a" cut off first, "bcdef" would fill its line, and "g" begin a third one.
        lines("abcdef_g_h", 5, 2);
        lines("abcdef_g_hi", 5, 3);
    }

    static void aLongPieceOfANameIsCut() {
        Mail mail = new Mail();
        mail.addPerson("abcdefgh", 0, 0);
        mail.addPerson("abcdefg", 0, 0);
        mail.take("<n>");
        mail.set(0, 16);
        check.is("16 signs by 16", mail.letter(0, 4), 1);
        mail.set(0, 15);
        check.is("16 signs by 15", mail.letter(0, 4), 2);
        mail.set(0, 8);
        check.is("16 signs by 8", mail.letter(0, 4), 2);
        mail.set(0, 7);
        check.is("16 signs by 7", mail.letter(0, 4), 3);
    }

    static void theBlankOfAFieldDividesPieces() {
        Mail mail = new Mail();
        mail.addPerson("a", 0, 0);
        mail.addWord("egg");
        mail.give(0, 0);
        mail.take("<w>");
        mail.set(0, 6);
        check.is("an egg by 6", mail.letter(0, 4), 1);
        mail.set(0, 5);
        check.is("an egg by 5", mail.letter(0, 4), 2);
    }

    // ---- lines

    static void piecesShareALineUpToTheWidth() {
        lines("ab_cd", 5, 1);
        lines("ab_cde", 5, 2);
        lines("a_b_c", 5, 1);
        lines("a_b_cd", 5, 2);
        lines("a".repeat(19) + "_" + "b".repeat(20), 40, 1);
        lines("a".repeat(20) + "_" + "b".repeat(20), 40, 2);
    }

    static void aPieceThatBeginsALineIsFollowedThere() {
        lines("abcd_ef_gh", 5, 2);
        lines("abcd_ef_ghi", 5, 3);
    }

    static void aPieceDoesNotGoBackToALineWithRoom() {
        lines("a_bcdef_g", 5, 3);
    }

    static void eachParagraphBeginsANewLine() {
        lines("a/b", 5, 2);
        lines("a/b/c/d/e/f/g/h/i/j/k/l/m/n/o/p/q/r/s/t", 40, 20);
    }

    static void aNewParagraphHasItsWholeLine() {
        lines("abc/abcde", 5, 2);
        lines("abc/ab_cd", 5, 2);
    }

    static void eachPartBeginsANewLine() {
        lines("a|b", 40, 2);
        lines("abc|ab_cd", 5, 2);
    }

    static void otherSignsStandInTheirPieces() {
        lines("a,b.c", 5, 1);
        lines("a,b.cd", 5, 2);
    }

    // ---- pages

    static void aFullPageIsOne() {
        pages("a/b/c/d/e", 5, 1);
        pages("a", 1, 1);
        pages("/".repeat(19), 20, 1);
    }

    static void oneLineMoreThanAPageIsTwo() {
        pages("a/b/c/d/e/f", 5, 2);
        pages("a/b", 1, 2);
        pages("/".repeat(20), 20, 2);
    }

    static void twoFullPagesAreTwo() {
        pages("/".repeat(9), 5, 2);
        pages("/".repeat(10), 5, 3);
        pages("/".repeat(39), 20, 2);
        pages("/".repeat(40), 20, 3);
    }

    static void linesOfOneParagraphFillPages() {
        pages("a".repeat(25), 5, 1);
        pages("a".repeat(26), 5, 2);
    }

    static void eachPartBeginsANewPage() {
        pages("a|b", 20, 2);
        pages("a|b|c|d", 20, 4);
    }

    static void aPartBehindAFullPageBeginsTheNext() {
        pages("a/b|c", 2, 2);
        pages("a/b/c|d", 2, 3);
        pages("a|b/c", 2, 2);
        pages("a|b/c/d", 2, 3);
    }

    // ---- letters with too many pages

    static void aLetterWithTheMostPagesIsSent() {
        Mail mail = laidOut("||", 5, 5);
        check.is("pages", mail.letter(0, 5), 3);
        check.is("would be sent", mail.letter(0, 7), 1);
        check.is("the reason", mail.person(0, 8), 0);
        check.is("send", mail.send(), 1);
    }

    static void aLetterWithOnePageMoreIsNotSent() {
        Mail mail = laidOut("|||", 5, 5);
        check.is("pages", mail.letter(0, 5), 4);
        check.is("would be sent", mail.letter(0, 7), 0);
        check.is("the reason", mail.person(0, 8), 4);
        check.is("the letter", mail.person(0, 7), 0);
        check.state("send", mail, mail::send);
    }

    static void theMostPagesCanBe1() {
        Mail mail = laidOut("a", 5, 5);
        mail.set(4, 1);
        check.is("one page", mail.letter(0, 7), 1);
        mail.take("|");
        check.is("two pages", mail.letter(0, 7), 0);
    }

    static void theMostPagesCanBe9() {
        Mail mail = laidOut("|".repeat(8), 5, 5);
        mail.set(4, 9);
        check.is("9 pages", mail.letter(0, 7), 1);
        mail.take("|".repeat(9));
        check.is("10 pages", mail.letter(0, 7), 0);
    }

    static void reason4IsForAllPersonsOfTheLetter() {
        Mail mail = new Mail().addPersons(7, 0);
        mail.set(2, 6);
        mail.take("{|||}");
        for (int i = 0; i < 6; i++) {
            check.is("the reason of " + i, mail.person(i, 8), 4);
        }
        check.is("the reason of the last one", mail.person(6, 8), 0);
    }

    static void anEmptyLetterWouldBeSent() {
        Mail mail = forOne();
        check.is("would be sent", mail.letter(0, 7), 1);
        check.is("the reason", mail.person(0, 8), 0);
        check.is("letters that would be sent", mail.count(5), 1);
        check.is("their persons", mail.count(6), 1);
        check.is("their pages", mail.count(7), 1);
        check.is("their postage", mail.count(8), 4);
        check.is("ifSet", mail.ifSet(0, 20, 0), 1);
        check.is("share", mail.share(), 1.0);
        check.state("send", mail, mail::send);
    }

    // ---- postage

    static void thePostageIsForEachPage() {
        Mail mail = laidOut("a", 5, 5);
        check.is("one page by 4", mail.letter(0, 6), 4);
        mail.take("|".repeat(8));
        check.is("nine pages by 4", mail.letter(0, 6), 36);
        mail.set(5, 1);
        check.is("nine pages by 1", mail.letter(0, 6), 9);
        mail.set(5, 20);
        check.is("nine pages by 20", mail.letter(0, 6), 180);
    }

    static void aLetterThatIsNotSentHasAPostageToo() {
        check.is("four pages by 4", laidOut("|||", 5, 5).letter(0, 6), 16);
    }
}
