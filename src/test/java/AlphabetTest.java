/** Promises 1 to 5: a new object, feed, addLetter, moveLetter, letter. */
public final class AlphabetTest {
    private static final Class<?> ARGUMENT = IllegalArgumentException.class;
    private static final Class<?> BOUNDS = IndexOutOfBoundsException.class;
    private static final Class<?> STATE = IllegalStateException.class;

    public static void main(String[] args) {
        newObject();
        feed();
        addLetter();
        addLetterIsRefused();
        mostLetters();
        moveLetter();
        letter();
        textsAreDividedFromTheLeft();
        formsStayWhenLettersCome();
        Checks.end("AlphabetTest");
    }

    private static void newObject() {
        DialectDictionary desk = new DialectDictionary();
        for (int what = 0; what < 9; what++) {
            Checks.due(what == 4 ? 26 : 0, desk.account(what), "1: account(" + what + ") of a new object");
        }
        Checks.due("a b c d e f g h i j k l m n o p q r s t u v w x y z", Checks.alphabetOf(desk), "1: the alphabet");
        Checks.due("", Checks.reportOf(desk), "1: no report");
        Checks.refused(STATE, desk::undo, "1: nothing to take back");
        Checks.refused(STATE, desk::restore, "1: nothing saved");
    }

    private static void feed() {
        DialectDictionary desk = new DialectDictionary();
        Checks.due(1, desk.feed((char) 0), "2: any character, 0");
        Checks.due(2, desk.feed('\uffff'), "2: any character, 65535");
        for (int count = 3; count <= 60; count++) {
            Checks.due(count, desk.feed('a'), "2: feed");
        }
        Checks.refused(STATE, () -> desk.feed('a'), "2: the 61st character");
        Checks.due(60, desk.account(8), "2: the buffer stays after an exception");
    }

    private static void addLetter() {
        DialectDictionary desk = new DialectDictionary();
        Checks.due(27, desk.addLetter('c', 'h', 3), "3: in the middle");
        Checks.due("a b c ch d e f g h i j k l m n o p q r s t u v w x y z", Checks.alphabetOf(desk), "3: the row");
        Checks.due(28, desk.addLetter('s', 's', 0), "3: at the beginning");
        Checks.due(29, desk.addLetter('z', 'a', 28), "3: at the end");
        Checks.due("ss a b c ch d e f g h i j k l m n o p q r s t u v w x y z za", Checks.alphabetOf(desk),
                "3: the row with three");
        Checks.due(30, desk.addLetter('h', 'c', 4), "3: the other way round is another letter");
    }

    private static void addLetterIsRefused() {
        DialectDictionary desk = new DialectDictionary();
        desk.addLetter('c', 'h', 0);
        String before = Checks.stateOf(desk);
        Checks.refused(ARGUMENT, () -> desk.addLetter('c', 'h', 0), "3: a letter that is there");
        Checks.refused(ARGUMENT, () -> desk.addLetter('C', 'h', 0), "3: first not from a to z");
        Checks.refused(ARGUMENT, () -> desk.addLetter('c', 'H', 0), "3: second not from a to z");
        Checks.refused(ARGUMENT, () -> desk.addLetter('c', ' ', 0), "3: a blank second");
        Checks.refused(ARGUMENT, () -> desk.addLetter('`', 'c', 0), "3: the sign ahead of a");
        Checks.refused(ARGUMENT, () -> desk.addLetter('c', '{', 0), "3: the sign behind z");
        Checks.refused(ARGUMENT, () -> desk.addLetter('c', 'h', 99), "3: the argument comes ahead of the place");
        Checks.refused(BOUNDS, () -> desk.addLetter('s', 'h', -1), "3: place -1");
        Checks.refused(BOUNDS, () -> desk.addLetter('s', 'h', 28), "3: a place too far");
        Checks.due(before, Checks.stateOf(desk), "3: the state stays");
        Checks.due(28, desk.addLetter('s', 'h', 27), "3: the last place");
    }

    private static void mostLetters() {
        DialectDictionary desk = new DialectDictionary();
        for (int letter = 0; letter < 10; letter++) {
            Checks.due(27 + letter, desk.addLetter('q', (char) ('a' + letter), 26), "3: ten letters");
        }
        Checks.refused(STATE, () -> desk.addLetter('q', 'z', 0), "3: the eleventh");
        Checks.refused(BOUNDS, () -> desk.addLetter('q', 'z', 37), "3: the place comes ahead of the number");
        Checks.refused(ARGUMENT, () -> desk.addLetter('q', 'a', 0), "3: the argument comes ahead of the number");
        desk.undo();
        Checks.due(36, desk.addLetter('q', 'z', 0), "3: one that was taken back does not count");
    }

    private static void moveLetter() {
        DialectDictionary desk = new DialectDictionary();
        Checks.due(2, desk.moveLetter(0, 2), "4: up");
        Checks.due("b c a d e f g h i j k l m n o p q r s t u v w x y z", Checks.alphabetOf(desk), "4: the row");
        Checks.due(25, desk.moveLetter(25, 0), "4: down over all");
        Checks.due("z b c a d e f g h i j k l m n o p q r s t u v w x y", Checks.alphabetOf(desk), "4: the row then");
        Checks.due(0, desk.moveLetter(5, 5), "4: to its own place");
        String before = Checks.stateOf(desk);
        Checks.refused(BOUNDS, () -> desk.moveLetter(-1, 0), "4: from -1");
        Checks.refused(BOUNDS, () -> desk.moveLetter(0, -1), "4: to -1");
        Checks.refused(BOUNDS, () -> desk.moveLetter(26, 0), "4: from 26");
        Checks.refused(BOUNDS, () -> desk.moveLetter(0, 26), "4: to 26");
        Checks.due(before, Checks.stateOf(desk), "4: the state stays");
        desk.addLetter('c', 'h', 26);
        Checks.due(26, desk.moveLetter(26, 0), "4: a letter of two characters");
        Checks.due('c', desk.letter(0, false), "4: stands at the beginning then");
    }

    private static void letter() {
        DialectDictionary desk = new DialectDictionary();
        desk.addLetter('c', 'h', 1);
        Checks.due('a', desk.letter(0, false), "5: first of one");
        Checks.due(' ', desk.letter(0, true), "5: second of one");
        Checks.due('c', desk.letter(1, false), "5: first of two");
        Checks.due('h', desk.letter(1, true), "5: second of two");
        Checks.due('z', desk.letter(26, false), "5: the last one");
        Checks.refused(BOUNDS, () -> desk.letter(27, false), "5: place 27");
        Checks.refused(BOUNDS, () -> desk.letter(-1, true), "5: place -1");
    }

    private static void textsAreDividedFromTheLeft() {
        DialectDictionary desk = new DialectDictionary();
        desk.addLetter('c', 'h', 0);
        desk.addLetter('h', 'h', 0);
        Checks.add(desk, "chhha");
        Checks.due("(ch)(hh)a", Checks.formOf(desk, 0, -1), "6: from the left");
        Checks.add(desk, "hhhc");
        Checks.due("(hh)hc", Checks.formOf(desk, 1, -1), "6: what is left over stands alone");
        Checks.add(desk, "chchchchchchchch");
        Checks.due(8, desk.headword(2, 6), "6: 16 characters can be 8 letters");
    }

    private static void formsStayWhenLettersCome() {
        DialectDictionary desk = Checks.with("chat");
        desk.addLetter('c', 'h', 3);
        Checks.due("chat", Checks.formOf(desk, 0, -1), "3: the form stays");
        Checks.due(1, Checks.add(desk, "chat"), "3: the same text is another form then");
        Checks.due("(ch)at", Checks.formOf(desk, 1, -1), "3: with the new letter");
        Checks.due(1, Checks.fed(desk, "chat").find(), "13: the text finds the form of its letters");
        desk.moveLetter(3, 10);
        Checks.due(10, desk.letterOf(1, -1, 0), "4: forms keep letters, not places");
    }
}
