import java.util.NoSuchElementException;

/** Forms, the order and promises 15 to 17 at their limits: a test for each sentence that names one. */
public final class FormsEdgesTest {
    private static final Class<?> BOUNDS = IndexOutOfBoundsException.class;
    private static final Class<?> MISSING = NoSuchElementException.class;

    public static void main(String[] args) {
        oneToEightLetters();
        eightLettersOfTwoCharacters();
        dividedFromTheLeft();
        theOneCharacterThere();
        sameLettersInTheSameOrder();
        keptFormsStay();
        firstDifferentLetter();
        shorterFormFirst();
        lettersOfForms();
        formsOfHeadwords();
        headwordsOfLetters();
        placesOfTheOrder();
        orderWhenSomethingChanges();
        headwordsToCompare();
        formsToCompare();
        exceptionNamedFirst();
        Checks.end("FormsEdgesTest");
    }

    private static DialectDictionary ch() {
        DialectDictionary desk = new DialectDictionary();
        desk.addLetter('c', 'h', 3);
        return desk;
    }

    private static void oneToEightLetters() {
        Checks.sentence("Alphabet: A form is a row of 1 to 8 letters.");
        Twins.refusesText(DialectDictionary::new, "", DialectDictionary::add, "1:-1 1:0", "no letter");
        Twins.refusesText(DialectDictionary::new, "abcdefghi", DialectDictionary::add, "1:-1 1:9", "nine letters");
        Twins.refusesText(DialectDictionary::new, "aaaaaaaaa", DialectDictionary::add, "1:-1 1:9", "nine times a");
        for (int length = 1; length <= 8; length++) {
            DialectDictionary desk = new DialectDictionary();
            String text = "abcdefgh".substring(0, length);
            Checks.due(0, Checks.add(desk, text), length + " letters");
            Checks.due(length, desk.headword(0, 6), "their number");
            Checks.due(length, desk.account(5), "the letters of all forms");
            Checks.due(text, Checks.formOf(desk, 0, -1), "the form");
            Checks.due(0, Checks.find(desk, text), "find");
        }
        DialectDictionary edges = Checks.with("zzzzzzzz", "a");
        Checks.due("zzzzzzzz", Checks.formOf(edges, 0, -1), "eight times the last letter");
        Checks.due("a", Checks.formOf(edges, 1, -1), "once the first letter");
    }

    private static void eightLettersOfTwoCharacters() {
        Checks.sentence("Alphabet: a letter consists of one or two characters from a to z");
        DialectDictionary desk = ch();
        Checks.due(0, Checks.add(desk, "ch".repeat(8)), "16 characters, eight letters");
        Checks.due(8, desk.headword(0, 6), "their number");
        Checks.due(3, desk.letterOf(0, -1, 7), "the eighth");
        Checks.due(1, Checks.add(desk, "ch".repeat(7) + "c"), "15 characters, eight letters");
        Checks.due(2, desk.letterOf(1, -1, 7), "the eighth is c");
        Twins.refusesText(FormsEdgesTest::ch, "chchchchchchchchc", DialectDictionary::add, "1:-1 1:9", "17 characters");
        Twins.refusesText(FormsEdgesTest::ch, "ch".repeat(9), DialectDictionary::add, "1:-1 1:9", "18 characters");
        Twins.refusesText(FormsEdgesTest::ch, "ch".repeat(30), DialectDictionary::add, "1:-1 1:30", "60 characters");
        DialectDictionary most = Desks.letters(10);
        Checks.due(0, Checks.add(most, "qjqjqjqjqjqjqjqj"), "eight times the tenth letter");
        Checks.due("(qj)(qj)(qj)(qj)(qj)(qj)(qj)(qj)", Checks.formOf(most, 0, -1), "the form");
        Checks.due(35, most.letterOf(0, -1, 7), "its eighth letter");
    }

    private static void dividedFromTheLeft() {
        Checks.sentence("Alphabet: A text of characters is divided into letters from the left");
        divided("hh ch", "chh", "(ch)h");
        divided("hh ch", "hhch", "(hh)(ch)");
        divided("hh ch", "hhh", "(hh)h");
        divided("hh ch", "hhhh", "(hh)(hh)");
        divided("hh ch", "chch", "(ch)(ch)");
        divided("ab bc", "abc", "(ab)c");
        divided("bc ab", "abc", "(ab)c");
        divided("bc ab", "bcab", "(bc)(ab)");
        divided("bc", "abc", "a(bc)");
        divided("aa", "aaaaa", "(aa)(aa)a");
    }

    private static void theOneCharacterThere() {
        Checks.sentence("Alphabet: the two characters there are a letter if they are one of the alphabet, "
                + "otherwise the one character there is one");
        divided("ch", "c", "c");
        divided("ch", "h", "h");
        divided("ch", "hc", "hc");
        divided("ch", "cch", "c(ch)");
        divided("ch", "chc", "(ch)c");
        divided("ch", "cah", "cah");
        divided("ch", "acha", "a(ch)a");
        divided("", "ch", "ch");
        DialectDictionary desk = ch();
        desk.undo();
        Checks.add(desk, "ch");
        Checks.due("ch", Checks.formOf(desk, 0, -1), "a letter that was taken back");
    }

    /** What a text is as a form, with these letters of two characters at the beginning of the alphabet. */
    private static void divided(String letters, String text, String want) {
        DialectDictionary desk = new DialectDictionary();
        for (String letter : letters.split(" ")) {
            if (!letter.isEmpty()) {
                desk.addLetter(letter.charAt(0), letter.charAt(1), 0);
            }
        }
        Checks.add(desk, text);
        Checks.due(want, Checks.formOf(desk, 0, -1), text + " with " + letters);
        Checks.due(0, Checks.find(desk, text), "find " + text + " with " + letters);
    }

    private static void sameLettersInTheSameOrder() {
        Checks.sentence("Alphabet: two forms are the same if they are the same letters in the same order");
        DialectDictionary desk = Checks.with("ab", "ba", "a", "b", "aba", "aab", "aaaaaaaa", "aaaaaaa", "aaaaaaab");
        Checks.due(9, desk.account(0), "nine forms");
        String[] texts = {"ab", "ba", "a", "b", "aba", "aab", "aaaaaaaa", "aaaaaaa", "aaaaaaab"};
        for (int headword = 0; headword < 9; headword++) {
            Checks.due(headword, Checks.find(desk, texts[headword]), "find " + texts[headword]);
        }
        Twins.refusesText(() -> Checks.with("ab", "ba"), "ba", DialectDictionary::add, "1:-1 2:1", "the same");
        Twins.refusesText(() -> Checks.with("aaaaaaaa", "aaaaaaab"), "aaaaaaab", DialectDictionary::add, "1:-1 2:1",
                "the same in eight letters");
        DialectDictionary letters = Checks.with("ch");
        letters.addLetter('c', 'h', 0);
        Checks.due(1, Checks.add(letters, "ch"), "one letter is another form than its two characters");
        Checks.due(-1, letters.compare(1, -1, 0, -1), "and has its own place in the order");
    }

    private static void keptFormsStay() {
        Checks.sentence("Alphabet: When a letter is added, the forms that are kept stay as they are.");
        DialectDictionary desk = Checks.with("chch", "x");
        Checks.addVariant(desk, 1, "ach");
        desk.addLetter('c', 'h', 0);
        Checks.due("chch", Checks.formOf(desk, 0, -1), "the main form");
        Checks.due("ach", Checks.formOf(desk, 1, 0), "the variant");
        Checks.due(8, desk.account(5), "the letters of all forms");
        Checks.due(3, desk.letterOf(0, -1, 0), "its letter has moved up");
        Checks.refused(MISSING, () -> Checks.find(desk, "chch"), "the text is another form");
        Checks.due(2, Checks.add(desk, "chch"), "which can be added");
        Checks.due("chch", Checks.formOf(desk, 0, -1), "beside the one that stays");
        Checks.due(2, Checks.find(desk, "chch"), "and is found");
    }

    private static void firstDifferentLetter() {
        Checks.sentence("Order: the first place at which they have different letters decides: the form whose "
                + "letter there stands earlier in the alphabet comes first");
        before("a", "b");
        before("y", "z");
        before("az", "ba");
        before("azzzzzzz", "b");
        before("aaaaaaaa", "b");
        before("aaaaaaaa", "aaaaaaab");
        before("aaaaaaaz", "aaaaaaba");
        before("aaaaaaaa", "z");
        before("ab", "ac");
        before("abz", "ac");
    }

    private static void shorterFormFirst() {
        Checks.sentence("Order: if there is no such place, the shorter form comes first");
        before("a", "aa");
        before("a", "az");
        before("z", "za");
        before("aaaaaaa", "aaaaaaaa");
        before("z", "zzzzzzzz");
        before("abcdefg", "abcdefga");
        DialectDictionary same = Checks.with("abc", "aaaaaaaa");
        Checks.due(0, same.compare(0, -1, 0, -1), "the same");
        Checks.due(0, same.compare(1, -1, 1, -1), "the same with eight letters");
        DialectDictionary desk = ch();
        Checks.add(desk, "c");
        Checks.add(desk, "ch");
        Checks.add(desk, "ca");
        Checks.due(-1, desk.compare(2, -1, 1, -1), "ca ahead of ch, a letter behind c");
        desk.moveLetter(3, 0);
        Checks.due(-1, desk.compare(1, -1, 0, -1), "ch, at the beginning of the alphabet, ahead of c");
        Checks.due(-1, desk.compare(1, -1, 2, -1), "and of ca");
    }

    private static void before(String first, String second) {
        DialectDictionary desk = Checks.with(first, second);
        Checks.due(-1, desk.compare(0, -1, 1, -1), first + " ahead of " + second);
        Checks.due(1, desk.compare(1, -1, 0, -1), second + " behind " + first);
        Checks.due(0, desk.ordered(0), first + " is the first");
        Checks.due(1, desk.headword(1, 4), second + " is the second");
    }

    private static void lettersOfForms() {
        Checks.sentence("15: NoSuchElementException if it has no such form, or this has no such letter");
        DialectDictionary desk = Checks.with("zabcdefz", "z");
        Checks.addVariant(desk, 1, "ya");
        Checks.due(25, desk.letterOf(0, -1, 0), "the first of eight");
        Checks.due(0, desk.letterOf(0, -1, 1), "the second");
        Checks.due(25, desk.letterOf(0, -1, 7), "the last of eight");
        Checks.due(25, desk.letterOf(1, -1, 0), "the only one");
        Checks.due(0, desk.letterOf(1, 0, 1), "the last of a variant");
        for (int index : new int[] {-1, 8, 9, 64, Integer.MIN_VALUE, Integer.MAX_VALUE}) {
            Twins.traceless(() -> Checks.with("zabcdefz"), MISSING, d -> d.letterOf(0, -1, index), "index " + index);
        }
        Twins.traceless(() -> Checks.with("z"), MISSING, d -> d.letterOf(0, -1, 1), "index 1 of one letter");
        Twins.traceless(() -> Checks.with("z"), MISSING, d -> d.letterOf(0, -1, 7), "index 7 of one letter");
        Twins.traceless(Desks::fiveVariants, MISSING, d -> d.letterOf(1, 4, 1), "index 1 of a variant of one letter");
    }

    private static void formsOfHeadwords() {
        Checks.sentence("15: form: -1 for its main form, otherwise the number of the variant");
        DialectDictionary desk = Desks.fiveVariants();
        Checks.due(23, desk.letterOf(1, -1, 0), "the main form");
        for (int variant = 0; variant < 5; variant++) {
            Checks.due(variant, desk.letterOf(1, variant, 0), "variant " + variant);
        }
        for (int form : new int[] {-2, 5, 6, Integer.MIN_VALUE, Integer.MAX_VALUE}) {
            Twins.traceless(Desks::fiveVariants, MISSING, d -> d.letterOf(1, form, 0), "form " + form);
        }
        Twins.traceless(Desks::fiveVariants, MISSING, d -> d.letterOf(0, 0, 0), "variant 0 of none");
        desk.removeVariant(1, 0);
        Checks.refused(MISSING, () -> desk.letterOf(1, 4, 0), "variant 4 of four");
        Checks.due(4, desk.letterOf(1, 3, 0), "variant 3 of four");
    }

    private static void headwordsOfLetters() {
        Checks.sentence("15: IndexOutOfBoundsException if there is no such headword");
        for (int headword : new int[] {-1, 2, Integer.MIN_VALUE, Integer.MAX_VALUE}) {
            Twins.traceless(Desks::fiveVariants, BOUNDS, d -> d.letterOf(headword, -1, 0), "headword " + headword);
        }
        DialectDictionary desk = Desks.twentyHeadwords();
        Checks.due(19, desk.letterOf(19, -1, 0), "headword 19");
        Checks.refused(BOUNDS, () -> desk.letterOf(20, -1, 0), "headword 20");
        desk.remove(0);
        Checks.refused(BOUNDS, () -> desk.letterOf(19, -1, 0), "headword 19 of 19");
        Checks.due(19, desk.letterOf(18, -1, 0), "headword 18 of 19");
    }

    private static void placesOfTheOrder() {
        Checks.sentence("16: NoSuchElementException if there is no such place");
        for (int place : new int[] {-1, 0, Integer.MIN_VALUE, Integer.MAX_VALUE}) {
            Twins.traceless(DialectDictionary::new, MISSING, d -> d.ordered(place), "place " + place + " of none");
        }
        for (int place : new int[] {-1, 2, 20, Integer.MIN_VALUE, Integer.MAX_VALUE}) {
            Twins.traceless(Desks::fiveVariants, MISSING, d -> d.ordered(place), "place " + place + " of two");
        }
        DialectDictionary desk = Desks.twentyHeadwords();
        Checks.due(0, desk.ordered(0), "place 0 of 20");
        Checks.due(19, desk.ordered(19), "place 19 of 20");
        Checks.refused(MISSING, () -> desk.ordered(20), "place 20 of 20");
        desk.remove(3);
        Checks.refused(MISSING, () -> desk.ordered(19), "place 19 of 19");
        Checks.due(18, desk.ordered(18), "place 18 of 19");
        Checks.due(0, Checks.with("x").ordered(0), "place 0 of one");
    }

    private static void orderWhenSomethingChanges() {
        Checks.sentence("16: Returns the headword at a place in the order of all main forms.");
        DialectDictionary desk = Desks.fiveVariants();
        Checks.due(1, desk.ordered(0), "x");
        Checks.due(0, desk.ordered(1), "y");
        Checks.rename(desk, 1, "z");
        Checks.due(0, desk.ordered(0), "y, as x became z");
        Checks.due(1, desk.headword(1, 4), "the place of z");
        desk.promote(1, 0);
        Checks.due(1, desk.ordered(0), "a, as it became a main form");
        desk.moveLetter(0, 25);
        Checks.due(0, desk.ordered(0), "y, as a moved to the end");
        desk.undo();
        Checks.due(1, desk.ordered(0), "a, as it moved back");
    }

    private static void headwordsToCompare() {
        Checks.sentence("17: IndexOutOfBoundsException if there is no such headword");
        for (int headword : new int[] {-1, 2, Integer.MIN_VALUE, Integer.MAX_VALUE}) {
            Twins.traceless(Desks::fiveVariants, BOUNDS, d -> d.compare(headword, -1, 0, -1), "first " + headword);
            Twins.traceless(Desks::fiveVariants, BOUNDS, d -> d.compare(0, -1, headword, -1), "second " + headword);
        }
        DialectDictionary desk = Desks.twentyHeadwords();
        Checks.due(-1, desk.compare(0, -1, 19, -1), "0 and 19");
        Checks.due(1, desk.compare(19, -1, 0, -1), "19 and 0");
        Checks.refused(BOUNDS, () -> desk.compare(0, -1, 20, -1), "0 and 20");
        Checks.refused(BOUNDS, () -> desk.compare(20, -1, 0, -1), "20 and 0");
    }

    private static void formsToCompare() {
        Checks.sentence("17: NoSuchElementException if one has no such form");
        for (int form : new int[] {-2, 5, Integer.MIN_VALUE, Integer.MAX_VALUE}) {
            Twins.traceless(Desks::fiveVariants, MISSING, d -> d.compare(1, form, 0, -1), "first form " + form);
            Twins.traceless(Desks::fiveVariants, MISSING, d -> d.compare(0, -1, 1, form), "second form " + form);
        }
        Twins.traceless(Desks::fiveVariants, MISSING, d -> d.compare(0, 0, 1, 0), "variant 0 of none, the first");
        Twins.traceless(Desks::fiveVariants, MISSING, d -> d.compare(1, 0, 0, 0), "variant 0 of none, the second");
        DialectDictionary desk = Desks.fiveVariants();
        Checks.due(-1, desk.compare(1, 0, 1, 4), "variants 0 and 4");
        Checks.due(1, desk.compare(1, 4, 1, 0), "variants 4 and 0");
        Checks.due(0, desk.compare(1, 4, 1, 4), "variant 4 and itself");
        Checks.due(-1, desk.compare(1, 4, 1, -1), "variant 4 and the main form");
    }

    private static void exceptionNamedFirst() {
        Checks.sentence("Terms: If several exceptions apply, the one named first is thrown.");
        Twins.traceless(Desks::fiveVariants, BOUNDS, d -> d.letterOf(2, 9, 9), "15: headword, form and letter");
        Twins.traceless(Desks::fiveVariants, BOUNDS, d -> d.compare(2, 9, 0, -1), "17: first headword and its form");
        Twins.traceless(Desks::fiveVariants, BOUNDS, d -> d.compare(0, 9, 2, -1), "17: first form, second headword");
    }
}
