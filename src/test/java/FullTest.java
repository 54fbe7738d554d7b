import java.util.NoSuchElementException;

/** All calls in a dictionary that is full, in one that is empty, and with numbers far out of range. */
public final class FullTest {
    private static final int[] FAR = {Integer.MIN_VALUE, -2, 99, Integer.MAX_VALUE};

    public static void main(String[] args) {
        looksIntoAFullOne();
        changesInAFullOne();
        savesAFullOne();
        nothingStaysOfWhatIsGone();
        anEmptyOne();
        for (int far : FAR) {
            farNumbers(new DialectDictionary(), new DialectDictionary(), far);
            farNumbers(full(), full(), far);
        }
        Checks.end("FullTest");
    }

    /**
     * 20 headwords, 60 forms, 8 rules, 36 letters, and every headword but the last refers to the next one. It is made
     * by some 240 calls, so that the rest of the 512 calls of an object are left for looking into it.
     */
    private static DialectDictionary full() {
        DialectDictionary desk = new DialectDictionary();
        for (int letter = 0; letter < 10; letter++) {
            desk.addLetter('z', (char) ('a' + letter), 26 + letter);
        }
        for (int rule = 0; rule < 8; rule++) {
            desk.addRule(rule, rule + 1, 0, 0);
        }
        for (int headword = 0; headword < 19; headword++) {
            Checks.add(desk, headword == 0 ? "aaaaaaaa" : "a" + (char) ('a' + headword));
            Checks.addVariant(desk, headword, "" + (char) ('b' + headword));
            Checks.addVariant(desk, headword, "zj" + (char) ('a' + headword));
            if (headword < 2) {
                Checks.addVariant(desk, headword, "zjx" + (char) ('a' + headword));
            }
        }
        Checks.add(desk, "zazbzczdzezfzgzh");
        for (int headword = 0; headword < 19; headword++) {
            desk.refer(headword, headword + 1);
        }
        return desk;
    }

    private static void looksIntoAFullOne() {
        DialectDictionary desk = full();
        int[] want = {20, 60, 19, 8, 36, 115, 0, 13, 0};
        for (int what = 0; what < 9; what++) {
            Checks.due(want[what], desk.account(what), "28: account(" + what + ")");
        }
        for (int headword = 0; headword < 20; headword++) {
            Checks.due(headword, desk.ordered(headword), "16: ordered(" + headword + ")");
            Checks.due(headword, desk.headword(headword, 4), "14: its place");
            Checks.due(19, desk.headword(headword, 2), "14: its end");
            Checks.due(headword == 0 ? 0 : 1, desk.headword(headword, 3), "14: who refers to it");
            Checks.due(0, desk.headword(headword, 5), "14: nothing comes from it");
        }
        Checks.due(35, desk.letterOf(0, 2, 0), "15: the last letter");
        Checks.due(33, desk.letterOf(19, -1, 7), "15: the eighth letter");
        Checks.due(9, desk.derived(0, -1, -1, -1), "24: the longest row");
        Checks.due(19, desk.rule(7, 4), "23: all but one");
        Checks.due(19.0f / 20.0f, desk.changedShare(), "30: all but one");
        Checks.due(115.0 / 60.0, desk.meanLength(), "29: the mean length");
    }

    private static void changesInAFullOne() {
        DialectDictionary desk = full();
        String before = Checks.outlineOf(full());
        Checks.due(19, desk.exchange(0, 7), "21: exchange");
        Checks.due(8, Checks.fed(desk, "y").rename(19), "8: rename");
        Checks.due(2, desk.remove(5), "11: remove");
        Checks.due(35, desk.moveLetter(35, 0), "4: move");
        Checks.due(7, desk.removeRule(0), "22: remove a rule");
        Checks.due(7, desk.addRule(0, -1, 0, 0), "20: a rule that lets fall away");
        Checks.due(-1, desk.rule(7, 1), "23: it has no other letter");
        Checks.due(4, desk.join(1, 18), "12: join");
        for (int left = 7; left > 0; left--) {
            Checks.due(left, desk.undo(), "32: undo");
        }
        Checks.due(before, Checks.outlineOf(desk), "32: all are taken back");
    }

    private static void savesAFullOne() {
        DialectDictionary desk = full();
        Checks.due(20, desk.save(), "33: save");
        Checks.perform(desk, "18&19;3>18");
        desk.removeVariant(0, 1);
        desk.moveLetter(35, 0);
        desk.removeRule(3);
        Checks.due(20, desk.restore(), "34: restore");
        Checks.due(Checks.outlineOf(full()), Checks.outlineOf(desk), "34: as it was");
    }

    private static void nothingStaysOfWhatIsGone() {
        DialectDictionary desk = Checks.with("a", "bb", "c");
        Checks.perform(desk, "2~ddd;2>0");
        desk.addRule(2, 0, 0, 0);
        desk.addRule(0, 1, 0, 0);
        desk.remove(2);
        Checks.due(3, desk.account(5), "28: no letters of it");
        Checks.due(0, desk.headword(0, 3), "14: it refers no more");
        Checks.due(2, desk.account(6), "28: nobody refers");
        Checks.refused(NoSuchElementException.class, () -> Checks.fed(desk, "ddd").find(), "13: not found");
        Checks.due(2, desk.account(7), "28: no result of it");
        Checks.due(1, desk.removeRule(1), "22: the rule goes");
        Checks.due(1, desk.derived(0, -1, -1, 0), "24: it changes nothing");
        Checks.due(2, Checks.add(desk, "c"), "6: made again");
        Checks.due(0, desk.headword(2, 0), "6: without the variant");
        Checks.due(-1, desk.headword(2, 1), "6: without the reference");
    }

    private static void anEmptyOne() {
        DialectDictionary desk = new DialectDictionary();
        Checks.refused(NoSuchElementException.class, () -> desk.ordered(0), "16: no headwords");
        Checks.refused(NoSuchElementException.class, desk::find, "13: no text");
        Checks.refused(UnsupportedOperationException.class, desk::add, "6: no text");
        Checks.refused(IndexOutOfBoundsException.class, () -> desk.join(0, 0), "12: no headwords");
        Checks.refused(IndexOutOfBoundsException.class, () -> desk.refer(0, -1), "18: no headwords");
        Checks.refused(IndexOutOfBoundsException.class, () -> desk.exchange(0, 0), "21: no rules");
        Checks.refused(UnsupportedOperationException.class, () -> Checks.perform(desk, "0>0"), "31: no headwords");
    }

    private static void farNumbers(DialectDictionary desk, DialectDictionary spared, int far) {
        Class<?> bounds = IndexOutOfBoundsException.class;
        Class<?> argument = IllegalArgumentException.class;
        Class<?> missing = NoSuchElementException.class;
        boolean isFilled = desk.account(0) > 0;
        Class<?> inside = isFilled ? missing : bounds;
        Checks.refused(bounds, () -> desk.addLetter('q', 'q', far), "3: far");
        Checks.refused(bounds, () -> desk.moveLetter(far, 0), "4: far");
        Checks.refused(bounds, () -> desk.moveLetter(0, far), "4: far");
        Checks.refused(bounds, () -> desk.letter(far, true), "5: far");
        Checks.refused(bounds, () -> desk.addVariant(far), "7: far");
        Checks.refused(bounds, () -> desk.rename(far), "8: far");
        Checks.refused(bounds, () -> desk.promote(far, 0), "9: far");
        Checks.refused(inside, () -> desk.promote(0, far), "9: far variant");
        Checks.refused(bounds, () -> desk.removeVariant(far, 0), "10: far");
        Checks.refused(inside, () -> desk.removeVariant(0, far), "10: far variant");
        Checks.refused(bounds, () -> desk.remove(far), "11: far");
        Checks.refused(bounds, () -> desk.join(far, 0), "12: far");
        Checks.refused(bounds, () -> desk.join(0, far), "12: far");
        Checks.refused(bounds, () -> desk.headword(far, far), "14: far");
        Checks.refused(isFilled ? argument : bounds, () -> desk.headword(0, far), "14: far what");
        Checks.refused(inside, () -> desk.letterOf(0, far, 0), "15: far form");
        Checks.refused(inside, () -> desk.letterOf(0, -1, far), "15: far index");
        Checks.refused(missing, () -> desk.ordered(far), "16: far");
        Checks.refused(bounds, () -> desk.compare(0, -1, far, -1), "17: far");
        Checks.refused(inside, () -> desk.compare(0, -1, 0, far), "17: far form");
        Checks.refused(bounds, () -> desk.refer(0, far), "18: far");
        Checks.refused(bounds, () -> desk.steps(far, far), "19: far");
        Checks.refused(bounds, () -> desk.addRule(far, 0, 0, 0), "20: far");
        Checks.refused(bounds, () -> desk.addRule(0, far, 0, 0), "20: far");
        Checks.refused(argument, () -> desk.addRule(0, 0, far, 0), "20: far condition");
        Checks.refused(argument, () -> desk.addRule(0, 0, 0, far), "20: far condition");
        Checks.refused(bounds, () -> desk.exchange(far, 0), "21: far");
        Checks.refused(bounds, () -> desk.removeRule(far), "22: far");
        Checks.refused(bounds, () -> desk.rule(far, 0), "23: far");
        Checks.refused(isFilled ? argument : bounds, () -> desk.rule(0, far), "23: far what");
        Checks.refused(inside, () -> desk.derived(0, -1, far, 0), "24: far index");
        Checks.refused(inside, () -> desk.derived(0, -1, 0, far), "24: far letter");
        Checks.refused(inside, () -> desk.derived(0, far, 0, 0), "24: far form");
        Checks.refused(inside, () -> desk.by(0, -1, far), "25: far index");
        Checks.refused(inside, () -> desk.proves(0, -1, 0, far), "26: far form");
        Checks.refused(missing, () -> desk.report(far, true), "27: far level");
        Checks.refused(argument, () -> desk.account(far), "28: far");
        Checks.due(Checks.outlineOf(spared), Checks.outlineOf(desk), "all: the state stays");
    }
}
