/** Promises 1 to 5 and the alphabet at their limits: a test for each sentence of the document that names one. */
public final class AlphabetEdgesTest {
    private static final Class<?> ARGUMENT = IllegalArgumentException.class;
    private static final Class<?> BOUNDS = IndexOutOfBoundsException.class;
    private static final Class<?> STATE = IllegalStateException.class;
    private static final char[] OUTSIDE = {0, ' ', '/', '0', '9', ';', '@', 'A', 'Z', '[', '`', '{', '~', 127, 170, 225,
        255, 0x161, 0xff41, 0xffff};

    public static void main(String[] args) {
        nothingAtFirst();
        lettersAtFirst();
        fullBuffer();
        anyCharacter();
        emptyBufferAfterwards();
        charactersOfALetter();
        noLetterTwice();
        placesOfANewLetter();
        lettersFromThereOnMoveUp();
        tenLetters();
        tenLettersWithUndoAndRestore();
        exceptionNamedFirst();
        placesToMoveFrom();
        placesToMoveTo();
        otherLettersWhosePlacesAreDifferent();
        placesOfLetters();
        blankForTheSecondOne();
        Checks.end("AlphabetEdgesTest");
    }

    private static void nothingAtFirst() {
        Checks.sentence("1: Creates a dictionary without headwords and rules.");
        DialectDictionary desk = new DialectDictionary();
        int[] want = {0, 0, 0, 0, 26, 0, 0, 0, 0};
        for (int what = 0; what < 9; what++) {
            Checks.due(want[what], desk.account(what), "account(" + what + ")");
        }
        Twins.traceless(DialectDictionary::new, BOUNDS, d -> d.headword(0, 0), "headword 0");
        Twins.traceless(DialectDictionary::new, BOUNDS, d -> d.rule(0, 0), "rule 0");
        Checks.due(0, Checks.add(desk, "a"), "the first headword");
        Checks.due(0, desk.addRule(0, 1, 0, 0), "the first rule");
    }

    private static void lettersAtFirst() {
        Checks.sentence("Alphabet: At first it is the 26 letters from a to z of one character each, in their "
                + "order.");
        DialectDictionary desk = new DialectDictionary();
        for (int place = 0; place < 26; place++) {
            Checks.due((char) ('a' + place), desk.letter(place, false), "letter " + place);
            Checks.due(' ', desk.letter(place, true), "the second character of letter " + place);
        }
        Checks.refused(BOUNDS, () -> desk.letter(26, false), "a 27th letter");
        for (char sign = 'a'; sign <= 'z'; sign++) {
            Checks.due(sign - 'a', Checks.with("" + sign).letterOf(0, -1, 0), "a form of the letter " + sign);
        }
    }

    private static void fullBuffer() {
        Checks.sentence("2: IllegalStateException if the buffer already holds 60 characters");
        DialectDictionary desk = new DialectDictionary();
        for (int count = 1; count <= 60; count++) {
            Checks.due(count, desk.feed((char) ('a' + count % 26)), "character " + count);
        }
        Checks.refused(STATE, () -> desk.feed('a'), "the 61st character");
        Checks.refused(STATE, () -> desk.feed((char) 0), "again");
        Checks.due(60, desk.account(8), "the characters in the buffer");
        Twins.Maker full = () -> Checks.fed(new DialectDictionary(), Desks.TWENTY + "t");
        Twins.traceless(full, STATE, d -> d.feed(';'), "one more character");
        DialectDictionary texts = full.make();
        Checks.refused(STATE, () -> texts.feed('u'), "one more character of a text");
        Checks.due(20, texts.perform(), "the text without it");
        Checks.due("tt", Checks.formOf(texts, 19, -1), "its end");
    }

    private static void anyCharacter() {
        Checks.sentence("2: letter: any character");
        for (char sign : OUTSIDE) {
            DialectDictionary desk = Checks.fed(new DialectDictionary(), "+a");
            Checks.due(3, desk.feed(sign), "the character " + (int) sign);
            Checks.due(3, desk.account(8), "the characters in the buffer");
            Checks.due(sign == ';' ? -103 : -102, desk.perform(), "a text with it");
        }
    }

    private static void emptyBufferAfterwards() {
        Checks.sentence("2: Returns the number of characters in the buffer.");
        DialectDictionary desk = Checks.fed(new DialectDictionary(), "x".repeat(60));
        Checks.outcome(desk::find);
        Checks.due(1, desk.feed('a'), "the first character of a buffer that was full and is empty");
        desk.add();
        Checks.due(1, desk.feed('b'), "the first character behind add");
        Checks.outcome(desk::undo);
        Checks.due(2, desk.feed('c'), "the buffer stays over undo");
    }

    private static void charactersOfALetter() {
        Checks.sentence("3: IllegalArgumentException if a character is not from a to z");
        for (char sign : OUTSIDE) {
            Twins.traceless(() -> Desks.letters(1), ARGUMENT, d -> d.addLetter(sign, 'a', 0), "first " + (int) sign);
            Twins.traceless(() -> Desks.letters(1), ARGUMENT, d -> d.addLetter('a', sign, 0), "second " + (int) sign);
        }
        DialectDictionary desk = new DialectDictionary();
        Checks.due(27, desk.addLetter('a', 'z', 0), "a and z");
        Checks.due(28, desk.addLetter('z', 'a', 0), "z and a");
        Checks.due(29, desk.addLetter('a', 'a', 0), "a and a");
        Checks.due(30, desk.addLetter('z', 'z', 0), "z and z");
        Checks.due("zz aa za az a", Checks.alphabetOf(desk).substring(0, 13), "they stand there");
    }

    private static void noLetterTwice() {
        Checks.sentence("3: or the alphabet has this letter");
        Twins.traceless(() -> Desks.letters(2), ARGUMENT, d -> d.addLetter('q', 'a', 0), "the same at the beginning");
        Twins.traceless(() -> Desks.letters(2), ARGUMENT, d -> d.addLetter('q', 'b', 28), "the same at the end");
        Twins.traceless(() -> Desks.letters(10), ARGUMENT, d -> d.addLetter('q', 'j', 9), "the last of ten");
        DialectDictionary desk = Desks.letters(1);
        desk.moveLetter(26, 3);
        Checks.refused(ARGUMENT, () -> desk.addLetter('q', 'a', 0), "a letter that was moved");
        Checks.due(28, desk.addLetter('a', 'q', 0), "its characters the other way round");
        desk.undo();
        Checks.due(28, desk.addLetter('a', 'q', 0), "a letter that was taken back");
        Checks.refused(ARGUMENT, () -> desk.addLetter('a', 'q', 0), "it is there again");
    }

    private static void placesOfANewLetter() {
        Checks.sentence("3: IndexOutOfBoundsException if the place is less than 0 or greater than the number of "
                + "letters");
        for (int place : new int[] {-1, 27, 28, Integer.MIN_VALUE, Integer.MAX_VALUE}) {
            Twins.traceless(DialectDictionary::new, BOUNDS, d -> d.addLetter('c', 'h', place), "place " + place);
        }
        Twins.traceless(() -> Desks.letters(9), BOUNDS, d -> d.addLetter('c', 'h', 36), "place 36 of 35 letters");
        for (int place : new int[] {0, 1, 25, 26}) {
            DialectDictionary desk = new DialectDictionary();
            Checks.due(27, desk.addLetter('c', 'h', place), "place " + place);
            Checks.due('h', desk.letter(place, true), "it stands at place " + place);
        }
        DialectDictionary desk = Desks.letters(9);
        Checks.due(36, desk.addLetter('c', 'h', 35), "place 35 of 35 letters");
        Checks.due('c', desk.letter(35, false), "it stands at the end");
        Checks.due('q', desk.letter(34, false), "behind the one that was the last");
    }

    private static void lettersFromThereOnMoveUp() {
        Checks.sentence("3: its place in the row, from 0; the letters from there on move up by one");
        DialectDictionary desk = new DialectDictionary();
        desk.addLetter('c', 'h', 25);
        Checks.due("y ch z", Checks.alphabetOf(desk).substring(48), "ahead of the last one");
        desk.addLetter('s', 'h', 0);
        Checks.due("sh a b", Checks.alphabetOf(desk).substring(0, 6), "ahead of the first one");
        Checks.due("y ch z", Checks.alphabetOf(desk).substring(51), "all of them move");
    }

    private static void tenLetters() {
        Checks.sentence("3: IllegalStateException if 10 letters of two characters were added");
        DialectDictionary desk = Desks.letters(9);
        Checks.due(36, desk.addLetter('z', 'z', 0), "the tenth");
        Checks.due(36, desk.account(4), "the letters of the alphabet");
        for (int place : new int[] {0, 13, 36}) {
            Twins.traceless(() -> Desks.letters(10), STATE, d -> d.addLetter('z', 'z', place), "the eleventh");
        }
    }

    private static void tenLettersWithUndoAndRestore() {
        Checks.sentence("Alphabet: At most 10 letters of two characters can be added, each at any place of the "
                + "row.");
        DialectDictionary undone = Desks.letters(10);
        undone.undo();
        Checks.due(36, undone.addLetter('z', 'z', 36 - 1), "the tenth again, behind undo");
        Checks.refused(STATE, () -> undone.addLetter('z', 'y', 0), "the eleventh behind undo");
        DialectDictionary restored = Desks.letters(8);
        restored.save();
        restored.addLetter('x', 'x', 0);
        restored.addLetter('x', 'y', 0);
        Checks.refused(STATE, () -> restored.addLetter('x', 'z', 0), "the eleventh");
        restored.restore();
        Checks.due(35, restored.addLetter('x', 'y', 0), "the ninth, behind restore");
        Checks.due(36, restored.addLetter('x', 'z', 0), "the tenth, behind restore");
        Checks.refused(STATE, () -> restored.addLetter('x', 'x', 0), "the eleventh, behind restore");
    }

    private static void exceptionNamedFirst() {
        Checks.sentence("Terms: If several exceptions apply, the one named first is thrown.");
        Twins.traceless(() -> Desks.letters(10), ARGUMENT, d -> d.addLetter('Q', 'z', -1), "all three");
        Twins.traceless(() -> Desks.letters(10), ARGUMENT, d -> d.addLetter('q', 'a', 37), "all three, a letter twice");
        Twins.traceless(() -> Desks.letters(10), ARGUMENT, d -> d.addLetter('q', 'a', 0), "character and number");
        Twins.traceless(() -> Desks.letters(10), BOUNDS, d -> d.addLetter('q', 'z', 37), "place and number");
        Twins.traceless(() -> Desks.letters(10), BOUNDS, d -> d.addLetter('q', 'z', -1), "place -1 and number");
        Twins.traceless(DialectDictionary::new, ARGUMENT, d -> d.addLetter('a', '?', 99), "character and place");
    }

    private static void placesToMoveFrom() {
        Checks.sentence("4: from: IndexOutOfBoundsException if there is no such place");
        for (int from : new int[] {-1, 26, Integer.MIN_VALUE, Integer.MAX_VALUE}) {
            Twins.traceless(DialectDictionary::new, BOUNDS, d -> d.moveLetter(from, 0), "from " + from);
            Twins.traceless(DialectDictionary::new, BOUNDS, d -> d.moveLetter(from, from), "from and to " + from);
        }
        Twins.traceless(() -> Desks.letters(10), BOUNDS, d -> d.moveLetter(36, 0), "from 36 of 36 letters");
        Checks.due(25, new DialectDictionary().moveLetter(0, 25), "from 0");
        Checks.due(25, new DialectDictionary().moveLetter(25, 0), "from 25");
        DialectDictionary desk = Desks.letters(10);
        Checks.due(35, desk.moveLetter(35, 0), "from 35 of 36 letters");
        Checks.due("qj a b", Checks.alphabetOf(desk).substring(0, 6), "it stands at the beginning");
    }

    private static void placesToMoveTo() {
        Checks.sentence("4: to: IndexOutOfBoundsException if there is no such place");
        for (int to : new int[] {-1, 26, Integer.MIN_VALUE, Integer.MAX_VALUE}) {
            Twins.traceless(DialectDictionary::new, BOUNDS, d -> d.moveLetter(0, to), "to " + to);
        }
        Twins.traceless(() -> Desks.letters(10), BOUNDS, d -> d.moveLetter(0, 36), "to 36 of 36 letters");
        DialectDictionary desk = Desks.letters(10);
        Checks.due(35, desk.moveLetter(0, 35), "to 35 of 36 letters");
        Checks.due('a', desk.letter(35, false), "it stands at the end");
        Checks.due('b', desk.letter(0, false), "the second one is the first then");
        Checks.due('j', desk.letter(34, true), "the last one is the last but one");
    }

    private static void otherLettersWhosePlacesAreDifferent() {
        Checks.sentence("4: Returns the number of other letters whose places are different then.");
        DialectDictionary desk = new DialectDictionary();
        Checks.due(0, desk.moveLetter(0, 0), "the first to its own place");
        Checks.due(0, desk.moveLetter(25, 25), "the last to its own place");
        Checks.due(1, desk.moveLetter(0, 1), "up by one");
        Checks.due("b a c", Checks.alphabetOf(desk).substring(0, 5), "two have changed places");
        Checks.due(1, desk.moveLetter(1, 0), "down by one");
        Checks.due("a b c", Checks.alphabetOf(desk).substring(0, 5), "and again");
        Checks.due(24, desk.moveLetter(24, 0), "down by 24");
        Checks.due("y a b", Checks.alphabetOf(desk).substring(0, 5), "the others move up");
        Checks.due("w x z", Checks.alphabetOf(desk).substring(46), "but for the last one");
    }

    private static void placesOfLetters() {
        Checks.sentence("5: IndexOutOfBoundsException if there is no such place");
        for (int place : new int[] {-1, 26, Integer.MIN_VALUE, Integer.MAX_VALUE}) {
            Twins.traceless(DialectDictionary::new, BOUNDS, d -> d.letter(place, false), "first of " + place);
            Twins.traceless(DialectDictionary::new, BOUNDS, d -> d.letter(place, true), "second of " + place);
        }
        DialectDictionary desk = Desks.letters(10);
        Checks.due('a', desk.letter(0, false), "place 0");
        Checks.due('j', desk.letter(35, true), "place 35 of 36 letters");
        Checks.refused(BOUNDS, () -> desk.letter(36, false), "place 36 of 36 letters");
        desk.undo();
        Checks.refused(BOUNDS, () -> desk.letter(35, true), "place 35 of 35 letters");
        Checks.due('i', desk.letter(34, true), "place 34 of 35 letters");
    }

    private static void blankForTheSecondOne() {
        Checks.sentence("5: a blank for the second one of a letter that has only one");
        DialectDictionary desk = new DialectDictionary();
        desk.addLetter('a', 'a', 0);
        Checks.due('a', desk.letter(0, true), "the second of aa");
        Checks.due(' ', desk.letter(1, true), "the second of a");
        desk.moveLetter(0, 26);
        Checks.due(' ', desk.letter(0, true), "the second of a, moved");
        Checks.due('a', desk.letter(26, true), "the second of aa, moved");
        Checks.due(' ', desk.letter(25, true), "the second of z");
    }
}
