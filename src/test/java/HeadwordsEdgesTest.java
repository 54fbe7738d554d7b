import java.util.NoSuchElementException;

/** Promises 6 to 11, 13 and 14, headwords and the refusals 1 to 4 at their limits: a test for each such sentence. */
public final class HeadwordsEdgesTest {
    private static final Class<?> ARGUMENT = IllegalArgumentException.class;
    private static final Class<?> BOUNDS = IndexOutOfBoundsException.class;
    private static final Class<?> MISSING = NoSuchElementException.class;
    private static final char[] OUTSIDE = {0, ' ', '0', ';', 'A', 'Z', '`', '{', 127, 225, 255, 0x161, 0xffff};
    private static final int[] NO_HEADWORDS = {-1, 2, 20, Integer.MIN_VALUE, Integer.MAX_VALUE};

    public static void main(String[] args) {
        twentyHeadwords();
        numberedInTheirOrder();
        sixtyForms();
        twentyIsTheDetail();
        fiveVariants();
        noFormTwice();
        noForm();
        moreThanEightLetters();
        charactersAndMoreThanEightLetters();
        formOfAHeadword();
        firstReasonThatApplies();
        emptyAfterAdd();
        bufferOfAddVariant();
        bufferOfRename();
        noSuchHeadword();
        lengthOfTheEarlierMainForm();
        ownMainForm();
        renameWithoutRoom();
        variantsToPromote();
        promoteExchanges();
        variantsToRemove();
        laterVariantsDecrease();
        headwordsToRemove();
        laterHeadwordsDecrease();
        find();
        whatOfAHeadword();
        numbersOfAHeadword();
        placeInTheOrder();
        Checks.end("HeadwordsEdgesTest");
    }

    private static DialectDictionary two() {
        return Checks.with("ab", "cd");
    }

    private static void twentyHeadwords() {
        Checks.sentence("Headwords: There are at most 20 headwords, numbered from 0");
        DialectDictionary desk = Desks.nineteenHeadwords();
        Checks.due(19, Checks.add(desk, "x"), "the 20th headword");
        Checks.due(20, desk.account(0), "the headwords");
        Checks.due("x", Checks.formOf(desk, 19, -1), "its form");
        Twins.refusesText(Desks::twentyHeadwords, "x", DialectDictionary::add, "1:-1 3:20", "the 21st headword");
        desk.remove(19);
        Checks.due(19, Checks.add(desk, "y"), "the 20th again");
        Checks.refused(UnsupportedOperationException.class, () -> Checks.add(desk, "z"), "the 21st again");
        desk.join(0, 1);
        Checks.due(19, Checks.add(desk, "z"), "the 20th behind a joining");
        desk.undo();
        Checks.due(19, Checks.add(desk, "xx"), "the 20th behind undo");
    }

    private static void numberedInTheirOrder() {
        Checks.sentence("Headwords: in the order in which they were made");
        DialectDictionary desk = new DialectDictionary();
        for (int headword = 0; headword < 20; headword++) {
            Checks.due(headword, Checks.add(desk, "" + (char) ('z' - headword)), "headword " + headword);
        }
        for (int headword = 0; headword < 20; headword++) {
            Checks.due(25 - headword, desk.letterOf(headword, -1, 0), "the form of headword " + headword);
            Checks.due(19 - headword, desk.headword(headword, 4), "its place in the order");
        }
    }

    private static void sixtyForms() {
        Checks.sentence("Headwords: at most 60 forms in all");
        DialectDictionary variant = Desks.fiftyNineForms();
        Checks.due(59, variant.account(1), "59 forms");
        Checks.due(5, Checks.addVariant(variant, 9, "x"), "the 60th form, a variant");
        Checks.due(60, variant.account(1), "60 forms");
        DialectDictionary headword = Desks.fiftyNineForms();
        Checks.due(10, Checks.add(headword, "x"), "the 60th form, a headword");
        Twins.refusesText(Desks::sixtyForms, "x", DialectDictionary::add, "1:-1 3:60", "the 61st form, a headword");
        Twins.refusesText(HeadwordsEdgesTest::elevenWithSixtyForms, "x", d -> d.addVariant(10), "2:10 3:60",
                "the 61st form, a variant");
        variant.removeVariant(0, 0);
        Checks.due(5, Checks.addVariant(variant, 0, "xx"), "the 60th form again");
        variant.remove(0);
        Checks.due(54, variant.account(1), "six forms fewer");
        Checks.due(9, Checks.add(variant, "xx"), "there is room for a headword");
    }

    /** The eleventh headword, x, has no variants. */
    private static DialectDictionary elevenWithSixtyForms() {
        DialectDictionary desk = Desks.fiftyNineForms();
        Checks.add(desk, "xx");
        return desk;
    }

    private static void twentyIsTheDetail() {
        Checks.sentence("Details: With 20 headwords, 20 is the detail, also if there are 60 forms.");
        Twins.refusesText(Desks::twentyHeadwordsAndSixtyForms, "x", DialectDictionary::add, "1:-1 3:20", "a headword");
        Twins.refusesText(Desks::twentyHeadwordsAndSixtyForms, "x", d -> d.addVariant(19), "2:19 3:20", "a variant");
        Checks.sentence("Refusals: 3, there are 20 headwords, or 60 forms: 20 or 60");
        Twins.refusesText(Desks::twentyHeadwords, "x", d -> d.addVariant(0), "2:0 3:20", "a variant, of 20");
        DialectDictionary desk = Desks.nineteenHeadwords();
        Checks.due(1, Checks.addVariant(desk, 0, "x"), "a variant, with 19 headwords");
    }

    private static void fiveVariants() {
        Checks.sentence("Headwords: up to 5 variants, numbered from 0 in the order in which they were added");
        DialectDictionary desk = Checks.with("y", "x");
        for (int variant = 0; variant < 5; variant++) {
            Checks.due(variant + 1, Checks.addVariant(desk, 1, "" + (char) ('e' - variant)), "variant " + variant);
        }
        for (int variant = 0; variant < 5; variant++) {
            Checks.due(4 - variant, desk.letterOf(1, variant, 0), "the form of variant " + variant);
        }
        Checks.sentence("Refusals: 4, there are 5 variants: the headword");
        Twins.refusesText(Desks::fiveVariants, "f", d -> d.addVariant(1), "2:1 4:1", "the sixth variant");
        Checks.due(1, Checks.addVariant(desk, 0, "f"), "a variant of another headword");
        desk.removeVariant(1, 4);
        Checks.due(5, Checks.addVariant(desk, 1, "g"), "the fifth again");
        desk.undo();
        Checks.due(5, Checks.addVariant(desk, 1, "h"), "the fifth behind undo");
    }

    private static void noFormTwice() {
        Checks.sentence("Headwords: No form belongs to two headwords, or to one twice.");
        for (String text : new String[] {"x", "a", "e"}) {
            Twins.refusesText(Desks::fiveVariants, text, DialectDictionary::add, "1:-1 2:1", "a headword");
            Twins.refusesText(Desks::fiveVariants, text, d -> d.addVariant(0), "2:0 2:1", "a variant of another one");
            Twins.refusesText(Desks::fiveVariants, text, d -> d.addVariant(1), "2:1 2:1", "a variant of this one");
            Twins.refusesText(Desks::fiveVariants, text, d -> d.rename(0), "5:0 2:1", "another main form");
            Twins.refusesText(Desks::fiveVariants, text, d -> d.rename(1), "5:1 2:1", "this main form");
        }
        DialectDictionary desk = Desks.fiveVariants();
        desk.promote(1, 4);
        Checks.refused(UnsupportedOperationException.class, () -> Checks.add(desk, "x"), "an earlier main form");
        desk.removeVariant(1, 4);
        Checks.due(2, Checks.add(desk, "x"), "a form that was removed");
        desk.remove(1);
        Checks.due(2, Checks.add(desk, "e"), "a main form that was removed");
        Checks.due(3, Checks.add(desk, "a"), "a variant that was removed");
    }

    private static void noForm() {
        Checks.sentence("Refusals: 1, a text is no form: 0 if it has a character that is not from a to z, or "
                + "none at all");
        refusesText("", 0);
        for (char sign : OUTSIDE) {
            refusesText("" + sign, 0);
            refusesText(sign + "x", 0);
            refusesText("x" + sign, 0);
            refusesText("abcdefg" + sign, 0);
        }
    }

    private static void moreThanEightLetters() {
        Checks.sentence("Refusals: 1, a text is to have more than 8 letters: the number of its letters");
        refusesText("xxxxxxxxx", 9);
        refusesText("abcdefghij", 10);
        refusesText("x".repeat(59), 59);
        refusesText("x".repeat(60), 60);
        Checks.due(2, Checks.add(two(), "xxxxxxxx"), "a headword of eight letters");
        Checks.due(1, Checks.addVariant(two(), 1, "xxxxxxxx"), "a variant of eight letters");
        Checks.due(2, Checks.rename(two(), 1, "xxxxxxxx"), "a main form of eight letters");
    }

    private static void charactersAndMoreThanEightLetters() {
        Checks.sentence("Refusals: 1: the number of its letters, or 0 if it has a character that is not from a "
                + "to z");
        refusesText("xxxxxxxx;", 0);
        refusesText(";xxxxxxxx", 0);
        refusesText("x".repeat(59) + "X", 0);
        refusesText("X" + "x".repeat(59), 0);
    }

    private static void refusesText(String text, int detail) {
        Twins.refusesText(HeadwordsEdgesTest::two, text, DialectDictionary::add, "1:-1 1:" + detail, "a headword");
        Twins.refusesText(HeadwordsEdgesTest::two, text, d -> d.addVariant(1), "2:1 1:" + detail, "a variant");
        Twins.refusesText(HeadwordsEdgesTest::two, text, d -> d.rename(1), "5:1 1:" + detail, "a main form");
        Twins.traceless(HeadwordsEdgesTest::two, MISSING, d -> Checks.find(d, text), "find \"" + text + "\"");
    }

    private static void formOfAHeadword() {
        Checks.sentence("Refusals: 2, the form belongs to a headword already: this headword");
        Twins.refusesText(Desks::nineteenHeadwords, "a", DialectDictionary::add, "1:-1 2:0", "that of headword 0");
        Twins.refusesText(Desks::nineteenHeadwords, "s", DialectDictionary::add, "1:-1 2:18", "that of headword 18");
        Twins.refusesText(Desks::nineteenHeadwords, "s", d -> d.addVariant(0), "2:0 2:18", "a variant");
        Twins.refusesText(Desks::nineteenHeadwords, "s", d -> d.rename(0), "5:0 2:18", "a main form");
        Checks.due(19, Checks.add(Desks.nineteenHeadwords(), "t"), "a form of none");
        Checks.due(19, Checks.add(Desks.nineteenHeadwords(), "aa"), "a longer form");
    }

    private static void firstReasonThatApplies() {
        Checks.sentence("Refusals: refused for the first of these reasons that applies");
        Twins.Maker most = Desks::twentyHeadwords;
        Twins.refusesText(most, "aaaaaaaaa", DialectDictionary::add, "1:-1 1:9", "1 and 3");
        Twins.refusesText(most, "", DialectDictionary::add, "1:-1 1:0", "1 and 3, no text");
        Twins.refusesText(most, "t", DialectDictionary::add, "1:-1 2:19", "2 and 3");
        Twins.refusesText(Desks::sixtyForms, "ej", DialectDictionary::add, "1:-1 2:9", "2 and 3, forms");
        Twins.refusesText(Desks::fiveVariants, "aaaaaaaaa", d -> d.addVariant(1), "2:1 1:9", "1 and 4");
        Twins.refusesText(Desks::fiveVariants, "y", d -> d.addVariant(1), "2:1 2:0", "2 and 4");
        Twins.refusesText(Desks::sixtyForms, "A", d -> d.addVariant(3), "2:3 1:0", "1, 3 and 4");
        Twins.refusesText(Desks::sixtyForms, "j", d -> d.addVariant(3), "2:3 2:9", "2, 3 and 4");
        Twins.refusesText(Desks::sixtyForms, "x", d -> d.addVariant(3), "2:3 3:60", "3 and 4");
    }

    private static void emptyAfterAdd() {
        Checks.sentence("6: the text in the input buffer, which is empty afterwards, also after an exception");
        DialectDictionary desk = two();
        Checks.due(2, Checks.add(desk, "x"), "add");
        Checks.due(0, desk.account(8), "the characters in the buffer");
        Checks.refused(UnsupportedOperationException.class, desk::add, "add without a text");
        Checks.due("1:-1 1:0", Checks.reportOf(desk), "its report");
        for (String text : new String[] {"x", ";", "xxxxxxxxx", "x".repeat(60)}) {
            Checks.refused(UnsupportedOperationException.class, () -> Checks.add(desk, text), "add " + text);
            Checks.due(0, desk.account(8), "the characters in the buffer");
            Checks.due(1, desk.feed('a'), "the next character is the first one");
            Checks.outcome(desk::find);
        }
    }

    private static void bufferOfAddVariant() {
        Checks.sentence("7: which is empty afterwards; if there is no such headword, the buffer stays");
        DialectDictionary desk = two();
        Checks.fed(desk, "xy");
        for (int headword : NO_HEADWORDS) {
            Checks.refused(BOUNDS, () -> desk.addVariant(headword), "headword " + headword);
            Checks.due(2, desk.account(8), "the buffer stays");
        }
        Checks.due("", Checks.reportOf(desk), "there is no report");
        Checks.due(1, desk.addVariant(1), "the last headword");
        Checks.due(0, desk.account(8), "the buffer is empty");
        Checks.due("xy", Checks.formOf(desk, 1, 0), "the variant");
        Checks.due(1, Checks.addVariant(desk, 0, "z"), "the first headword");
    }

    private static void bufferOfRename() {
        Checks.sentence("8: which is empty afterwards; if there is no such headword, the buffer stays");
        DialectDictionary desk = two();
        Checks.fed(desk, "xyz");
        for (int headword : NO_HEADWORDS) {
            Checks.refused(BOUNDS, () -> desk.rename(headword), "headword " + headword);
            Checks.due(3, desk.account(8), "the buffer stays");
        }
        Checks.due("", Checks.reportOf(desk), "there is no report");
        Checks.due(2, desk.rename(1), "the last headword");
        Checks.due(0, desk.account(8), "the buffer is empty");
        Checks.due("xyz", Checks.formOf(desk, 1, -1), "the main form");
        Checks.due(2, Checks.rename(desk, 0, "z"), "the first headword");
    }

    private static void noSuchHeadword() {
        Checks.sentence("7 to 11, 14: IndexOutOfBoundsException if there is no such headword");
        Twins.Maker fed = () -> Checks.fed(two(), "xy");
        for (int headword : NO_HEADWORDS) {
            Twins.traceless(fed, BOUNDS, d -> d.addVariant(headword), "addVariant " + headword);
            Twins.traceless(fed, BOUNDS, d -> d.rename(headword), "rename " + headword);
            Twins.traceless(fed, BOUNDS, d -> d.promote(headword, 0), "promote " + headword);
            Twins.traceless(fed, BOUNDS, d -> d.removeVariant(headword, 0), "removeVariant " + headword);
            Twins.traceless(fed, BOUNDS, d -> d.remove(headword), "remove " + headword);
            Twins.traceless(fed, BOUNDS, d -> d.headword(headword, 0), "headword " + headword);
            Twins.traceless(fed, BOUNDS, d -> d.headword(headword, 7), "headword " + headword + ", 7");
        }
        Twins.Maker most = () -> Checks.fed(Desks.twentyHeadwords(), "xy");
        Twins.traceless(most, BOUNDS, d -> d.rename(20), "rename 20 of 20");
        Twins.traceless(most, BOUNDS, d -> d.remove(20), "remove 20 of 20");
        Twins.traceless(most, BOUNDS, d -> d.headword(20, 0), "headword 20 of 20");
        Twins.traceless(most, BOUNDS, d -> d.addVariant(20), "addVariant 20 of 20, ahead of the refusal");
        Twins.traceless(DialectDictionary::new, BOUNDS, d -> d.remove(0), "remove 0 of none");
    }

    private static void lengthOfTheEarlierMainForm() {
        Checks.sentence("8: Returns the number of letters of the main form that it had.");
        DialectDictionary desk = Checks.with("abcdefgh", "i");
        Checks.due(8, Checks.rename(desk, 0, "j"), "eight letters");
        Checks.due(1, Checks.rename(desk, 0, "abcdefgh"), "one letter, to the earlier form again");
        Checks.due(8, desk.headword(0, 6), "eight letters again");
        Checks.due(1, Checks.rename(desk, 1, "k"), "one letter");
        Checks.due(0, Checks.find(desk, "abcdefgh"), "the form is its own");
    }

    private static void ownMainForm() {
        Checks.sentence("8: A form that is the main form already is refused like any other.");
        Twins.refusesText(HeadwordsEdgesTest::two, "ab", d -> d.rename(0), "5:0 2:0", "its own main form");
        Twins.refusesText(HeadwordsEdgesTest::two, "cd", d -> d.rename(1), "5:1 2:1", "its own main form");
        Twins.refusesText(Desks::fiveVariants, "e", d -> d.rename(1), "5:1 2:1", "its own variant");
    }

    private static void renameWithoutRoom() {
        Checks.sentence("8: UnsupportedOperationException if it is refused for the reason 1 or 2");
        DialectDictionary desk = Desks.twentyHeadwordsAndSixtyForms();
        Checks.due(1, Checks.rename(desk, 19, "x"), "with 20 headwords and 60 forms");
        Checks.due(60, desk.account(1), "the forms");
        Checks.due(1, Checks.rename(Desks.fiveVariants(), 1, "z"), "with five variants");
    }

    private static void variantsToPromote() {
        Checks.sentence("9: NoSuchElementException if it has no such variant");
        for (int variant : new int[] {-2, -1, 5, 6, Integer.MIN_VALUE, Integer.MAX_VALUE}) {
            Twins.traceless(Desks::fiveVariants, MISSING, d -> d.promote(1, variant), "variant " + variant);
            Twins.traceless(Desks::fiveVariants, BOUNDS, d -> d.promote(2, variant), "no headword, variant " + variant);
        }
        Twins.traceless(Desks::fiveVariants, MISSING, d -> d.promote(0, 0), "variant 0 of none");
        DialectDictionary desk = Desks.fiveVariants();
        Checks.due(1, desk.promote(1, 4), "variant 4");
        Checks.due("e", Checks.formOf(desk, 1, -1), "the main form");
        Checks.due(1, desk.promote(1, 0), "variant 0");
        Checks.due("a", Checks.formOf(desk, 1, -1), "the main form then");
        desk.removeVariant(1, 2);
        Checks.refused(MISSING, () -> desk.promote(1, 4), "variant 4 of four");
    }

    private static void promoteExchanges() {
        Checks.sentence("9: Exchanges the main form of a headword and one of its variants.");
        DialectDictionary desk = Checks.with("abcdefgh", "z");
        Checks.perform(desk, "0~i;0~jk;1>0");
        Checks.due(1, desk.promote(0, 0), "the letters of the new main form");
        Checks.due(8, desk.promote(0, 0), "and back");
        Checks.due(2, desk.promote(0, 1), "the other variant");
        Checks.due("jk i abcdefgh", Checks.formOf(desk, 0, -1) + " " + Checks.formOf(desk, 0, 0) + " "
                + Checks.formOf(desk, 0, 1), "the forms");
        Checks.due(2, desk.headword(0, 0), "the number of variants stays");
        Checks.due(0, desk.headword(1, 1), "references stay");
    }

    private static void variantsToRemove() {
        Checks.sentence("10: NoSuchElementException if it has no such variant");
        for (int variant : new int[] {-2, -1, 5, 6, Integer.MIN_VALUE, Integer.MAX_VALUE}) {
            Twins.traceless(Desks::fiveVariants, MISSING, d -> d.removeVariant(1, variant), "variant " + variant);
            Twins.traceless(Desks::fiveVariants, BOUNDS, d -> d.removeVariant(2, variant), "no headword, " + variant);
        }
        Twins.traceless(Desks::fiveVariants, MISSING, d -> d.removeVariant(0, 0), "variant 0 of none");
        DialectDictionary desk = Desks.fiveVariants();
        for (int left = 4; left >= 0; left--) {
            Checks.due(left, desk.removeVariant(1, left), "the last variant, " + left);
        }
        Checks.refused(MISSING, () -> desk.removeVariant(1, 0), "none is left");
        Checks.due("x", Checks.formOf(desk, 1, -1), "the main form stays");
        Checks.due(2, desk.account(1), "two forms");
    }

    private static void laterVariantsDecrease() {
        Checks.sentence("Headwords: when a variant is removed, those of later variants of the same headword do");
        Checks.due("bcde", variantsWithout(0), "without the first");
        Checks.due("acde", variantsWithout(1), "without the second");
        Checks.due("abcd", variantsWithout(4), "without the last");
        DialectDictionary desk = Desks.fiveVariants();
        Checks.addVariant(desk, 0, "z");
        Checks.due(4, desk.removeVariant(1, 0), "a variant of one headword");
        Checks.due("z", Checks.formOf(desk, 0, 0), "that of another one stays");
        Checks.due(5, Checks.addVariant(desk, 1, "a"), "the form is free");
        Checks.due("a", Checks.formOf(desk, 1, 4), "and the last one then");
    }

    private static String variantsWithout(int variant) {
        DialectDictionary desk = Desks.fiveVariants();
        desk.removeVariant(1, variant);
        StringBuilder text = new StringBuilder();
        for (int left = 0; left < 4; left++) {
            text.append(Checks.formOf(desk, 1, left));
        }
        Checks.refused(MISSING, () -> desk.letterOf(1, 4, 0), "a fifth variant");
        return text.toString();
    }

    private static void headwordsToRemove() {
        Checks.sentence("11: Returns the number of references that are gone by that, its own one included.");
        DialectDictionary star = Desks.headwords(20);
        for (int headword = 0; headword < 19; headword++) {
            star.refer(headword, 19);
        }
        Checks.due(19, star.headword(19, 3), "19 refer to it");
        Checks.due(19, star.remove(19), "all of them are gone");
        Checks.due(0, star.account(2), "no references");
        Checks.due(0, star.remove(0), "no reference is gone");
        Checks.due(1, Desks.chain(3).remove(0), "its own one");
        Checks.due(1, Desks.chain(3).remove(2), "the one to it");
        Checks.due(2, Desks.chain(3).remove(1), "both");
        DialectDictionary again = Desks.chain(3);
        Checks.addVariant(again, 0, "x");
        again.remove(0);
        Checks.due(2, Checks.add(again, "a"), "the headword made again");
        Checks.due("0 -1", again.headword(2, 0) + " " + again.headword(2, 1), "has neither variants nor a reference");
        DialectDictionary only = Checks.with("a");
        Checks.due(0, only.remove(0), "the only headword");
        Checks.due(0, only.account(0), "none is left");
        Checks.due(0, only.account(1), "no forms");
        Checks.refused(BOUNDS, () -> only.remove(0), "again");
        Checks.due(0, Checks.add(only, "a"), "numbers begin at 0 again");
    }

    private static void laterHeadwordsDecrease() {
        Checks.sentence("Headwords: When a headword is removed, all numbers of later headwords decrease by 1");
        DialectDictionary first = Desks.chain(4);
        Checks.due(1, first.remove(0), "the first");
        Checks.due("1 2 -1", references(first), "the references of b, c and d");
        Checks.due("b", Checks.formOf(first, 0, -1), "b is 0");
        DialectDictionary last = Desks.chain(4);
        Checks.due(1, last.remove(3), "the last");
        Checks.due("1 2 -1", references(last), "the references of a, b and c");
        Checks.due("a", Checks.formOf(last, 0, -1), "a is 0");
        DialectDictionary middle = Desks.chain(4);
        Checks.due(2, middle.remove(1), "the second");
        Checks.due("-1 2 -1", references(middle), "the references of a, c and d");
        DialectDictionary backwards = Desks.headwords(4);
        backwards.refer(3, 0);
        backwards.refer(2, 0);
        Checks.due(0, backwards.remove(1), "one without references");
        Checks.due("-1 0 0", references(backwards), "references to earlier ones stay");
    }

    private static String references(DialectDictionary desk) {
        StringBuilder text = new StringBuilder();
        for (int headword = 0; headword < desk.account(0); headword++) {
            text.append(desk.headword(headword, 1)).append(' ');
        }
        return text.toString().trim();
    }

    private static void find() {
        Checks.sentence("13: the text in the input buffer, which is empty afterwards, also after an exception");
        DialectDictionary desk = Desks.sixtyForms();
        Checks.due(0, Checks.find(desk, "a"), "the first form");
        Checks.due(9, Checks.find(desk, "ej"), "the last form");
        Checks.due(0, desk.account(8), "the characters in the buffer");
        Checks.refused(MISSING, () -> Checks.find(desk, "x"), "a form of no headword");
        Checks.due(0, desk.account(8), "the characters in the buffer");
        Checks.sentence("13: NoSuchElementException if the text is no form, or belongs to no headword");
        Checks.refused(MISSING, desk::find, "no text");
        for (String text : new String[] {"A", "aA", "a ", "aaaaaaaaa", "aaj", "ejx"}) {
            Checks.refused(MISSING, () -> Checks.find(desk, text), text);
        }
        DialectDictionary eight = Checks.with("abcdefgh");
        Checks.due(0, Checks.find(eight, "abcdefgh"), "eight letters");
        Checks.refused(MISSING, () -> Checks.find(eight, "abcdefghi"), "nine letters that begin alike");
        Checks.refused(MISSING, () -> Checks.find(eight, "abcdefg"), "seven letters that begin alike");
        Checks.due("", Checks.reportOf(eight), "there is no report");
        Twins.traceless(HeadwordsEdgesTest::two, MISSING, d -> Checks.find(d, "x"), "a form of no headword");
    }

    private static void whatOfAHeadword() {
        Checks.sentence("14: IllegalArgumentException if what is out of range");
        for (int what : new int[] {-1, 7, 8, Integer.MIN_VALUE, Integer.MAX_VALUE}) {
            Twins.traceless(Desks::fiveVariants, ARGUMENT, d -> d.headword(1, what), "what " + what);
            Twins.traceless(Desks::fiveVariants, BOUNDS, d -> d.headword(2, what), "no headword, what " + what);
        }
        Checks.due(5, Desks.fiveVariants().headword(1, 0), "what 0");
        Checks.due(1, Desks.fiveVariants().headword(1, 6), "what 6");
    }

    private static void numbersOfAHeadword() {
        Checks.sentence("14: what: 0 .. 6");
        DialectDictionary chain = Desks.chain(20);
        Checks.due(0, chain.headword(0, 0), "no variants");
        Checks.due(1, chain.headword(0, 1), "it refers to 1");
        Checks.due(-1, chain.headword(19, 1), "-1 without a reference");
        Checks.due(19, chain.headword(0, 2), "the end of the first");
        Checks.due(19, chain.headword(18, 2), "the end of the last but one");
        Checks.due(19, chain.headword(19, 2), "the end of the last is itself");
        Checks.due(0, chain.headword(0, 3), "none refers to the first");
        Checks.due(1, chain.headword(19, 3), "one refers to the last, not all");
        Checks.due(0, chain.headword(0, 4), "the first place");
        Checks.due(19, chain.headword(19, 4), "the last place");
        Checks.due(0, chain.headword(0, 5), "nothing comes from it without rules");
        Checks.due(8, Checks.with("abcdefgh").headword(0, 6), "eight letters");
        DialectDictionary all = Desks.rules(8, "a");
        Checks.perform(all, "0~b;0~c;0~d;0~e;0~f;+g;1~h;1~i");
        Checks.due(8, all.headword(0, 5), "eight forms of two headwords come from a");
        Checks.due(2, all.headword(1, 5), "two variants of its own come from g");
    }

    private static void placeInTheOrder() {
        Checks.sentence("14: 4 its place in the order of all main forms, from 0");
        DialectDictionary desk = Checks.with("z", "a", "ab");
        Checks.addVariant(desk, 0, "aa");
        Checks.due(2, desk.headword(0, 4), "the last place; its variant does not count");
        Checks.due(0, desk.headword(1, 4), "the first place");
        Checks.due(1, desk.headword(2, 4), "the place between");
        Checks.due(0, Checks.with("z").headword(0, 4), "the only place");
    }
}
