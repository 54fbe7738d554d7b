import java.util.NoSuchElementException;

/** Promises 12, 18 and 19: joining, references, steps. */
public final class ReferencesTest {
    private static final Class<?> BOUNDS = IndexOutOfBoundsException.class;
    private static final Class<?> REFUSED = UnsupportedOperationException.class;
    private static final Class<?> MISSING = NoSuchElementException.class;

    public static void main(String[] args) {
        join();
        joinWithReferences();
        joinIsRefused();
        joinWouldCloseACircle();
        refer();
        referIsRefused();
        steps();
        Checks.end("ReferencesTest");
    }

    private static void join() {
        DialectDictionary desk = Checks.with("a", "b", "c");
        Checks.perform(desk, "0~x;0~y;2~z");
        Checks.due(4, desk.join(2, 0), "12: the number of variants");
        Checks.due(2, desk.account(0), "12: one headword less");
        Checks.due("c", Checks.formOf(desk, 1, -1), "12: the main form stays");
        Checks.due("z", Checks.formOf(desk, 1, 0), "12: its own variant comes first");
        Checks.due("a", Checks.formOf(desk, 1, 1), "12: then the joined main form");
        Checks.due("x", Checks.formOf(desk, 1, 2), "12: then the joined variants");
        Checks.due("y", Checks.formOf(desk, 1, 3), "12: in their order");
        Checks.due(5, desk.join(1, 0), "12: five variants are allowed");
    }

    private static void joinWithReferences() {
        DialectDictionary desk = Checks.with("a", "b", "c", "d", "e");
        Checks.perform(desk, "0>2;1>0;3>0;2>4");
        Checks.due(1, desk.join(1, 0), "12: the headword refers to the joined one");
        Checks.due(-1, desk.headword(0, 1), "12: that reference is gone");
        Checks.due(0, desk.headword(2, 1), "12: another reference leads to the headword then");
        Checks.due(3, desk.headword(1, 1), "12: references of others stay");
        Checks.due(2, desk.account(2), "12: the joined one's own reference is gone");
        desk.refer(0, 3);
        Checks.due(2, desk.join(3, 0), "12: the joined one refers to the headword");
        Checks.due(-1, desk.headword(2, 1), "12: no reference to itself");
        Checks.due(2, desk.headword(1, 1), "12: those who referred to it refer to the headword");
    }

    private static void joinIsRefused() {
        DialectDictionary desk = Checks.with("a", "b", "c");
        Checks.perform(desk, "0~d;0~e;0~f;1~g;1~h");
        String before = Checks.stateOf(desk);
        Checks.refused(BOUNDS, () -> desk.join(0, 3), "12: no such other");
        Checks.refused(BOUNDS, () -> desk.join(-1, -1), "12: no such headword");
        Checks.refused(BOUNDS, () -> desk.join(3, 3), "12: the bounds come ahead of the refusal");
        Checks.due("", Checks.reportOf(desk), "12: without a report");
        Checks.refused(REFUSED, () -> desk.join(0, 0), "12: to itself");
        Checks.due("4:0 6:0", Checks.reportOf(desk), "12: reason 6");
        Checks.refused(REFUSED, () -> desk.join(1, 0), "12: too many");
        Checks.due("4:1 7:6", Checks.reportOf(desk), "12: reason 7");
        Checks.due(before, Checks.stateOf(desk), "12: the state stays");
        Checks.due(4, desk.join(0, 2), "12: fewer than too many");
        Checks.refused(REFUSED, () -> desk.join(0, 1), "12: too many now");
        Checks.due("4:0 7:7", Checks.reportOf(desk), "12: their number");
    }

    private static void joinWouldCloseACircle() {
        DialectDictionary desk = Checks.with("a", "b", "c", "d");
        Checks.perform(desk, "0>1;1>2;2>3");
        String before = Checks.stateOf(desk);
        Checks.refused(REFUSED, () -> desk.join(0, 2), "12: a circle over one");
        Checks.due("4:0 5:3", Checks.reportOf(desk), "12: reason 5 with the end of the headword");
        Checks.refused(REFUSED, () -> desk.join(0, 3), "12: a circle over two");
        Checks.due("4:0 5:3", Checks.reportOf(desk), "12: its report");
        Checks.due(before, Checks.stateOf(desk), "12: the state stays");
        Checks.perform(desk, "2~e;2~f;2~g;2~h;2~i");
        Checks.refused(REFUSED, () -> desk.join(0, 2), "12: reason 7 comes ahead of 5");
        Checks.due("4:0 7:6", Checks.reportOf(desk), "12: its report");
        Checks.due(1, desk.join(3, 0), "12: the other way round there is no circle");
        Checks.due("1 2 -1", desk.headword(0, 1) + " " + desk.headword(1, 1) + " " + desk.headword(2, 1),
                "12: the references then");
    }

    private static void refer() {
        DialectDictionary desk = Checks.with("a", "b", "c");
        Checks.due(-1, desk.refer(0, 1), "18: without one before");
        Checks.due(1, desk.refer(0, 2), "18: in place of an earlier one");
        Checks.due(2, desk.refer(0, 2), "18: the same again");
        Checks.due(2, desk.refer(0, -1), "18: to none");
        Checks.due(-1, desk.refer(0, -1), "18: to none again");
        Checks.due(0, desk.account(2), "18: none is left");
        Checks.refused(BOUNDS, () -> desk.refer(3, 0), "18: no such headword");
        Checks.refused(BOUNDS, () -> desk.refer(-1, 0), "18: headword -1");
        Checks.refused(BOUNDS, () -> desk.refer(0, 3), "18: no such other");
        Checks.refused(BOUNDS, () -> desk.refer(0, -2), "18: other -2");
    }

    private static void referIsRefused() {
        DialectDictionary desk = Checks.with("a", "b", "c", "d");
        Checks.perform(desk, "0>1;1>2;2>3");
        String before = Checks.stateOf(desk);
        Checks.refused(REFUSED, () -> desk.refer(3, 0), "18: a circle of four");
        Checks.due("3:3 5:3", Checks.reportOf(desk), "18: reason 5 with the end");
        Checks.refused(REFUSED, () -> desk.refer(1, 0), "18: a circle, though the reference would be replaced");
        Checks.due("3:1 5:3", Checks.reportOf(desk), "18: its report");
        Checks.refused(REFUSED, () -> desk.refer(2, 2), "18: to itself");
        Checks.due("3:2 5:3", Checks.reportOf(desk), "18: the end of itself");
        Checks.due(before, Checks.stateOf(desk), "18: the state stays");
        Checks.due(1, desk.refer(0, 3), "18: a shorter way is no circle");
    }

    private static void steps() {
        DialectDictionary desk = Checks.with("a", "b", "c", "d");
        Checks.perform(desk, "0>1;1>2;3>1");
        Checks.due(0, desk.steps(0, 0), "19: to itself");
        Checks.due(1, desk.steps(0, 1), "19: one");
        Checks.due(2, desk.steps(3, 2), "19: two");
        Checks.refused(MISSING, () -> desk.steps(2, 0), "19: the other way round");
        Checks.refused(MISSING, () -> desk.steps(0, 3), "19: beside the way");
        Checks.refused(BOUNDS, () -> desk.steps(0, 4), "19: no such other");
        Checks.refused(BOUNDS, () -> desk.steps(-1, 0), "19: no such headword");
        DialectDictionary longest = Checks.with("a", "b", "c", "d", "e", "f", "g", "h", "i", "j", "k", "l", "m", "n",
                "o", "p", "q", "r", "s", "t");
        for (int headword = 0; headword < 19; headword++) {
            longest.refer(headword, headword + 1);
        }
        Checks.due(19, longest.steps(0, 19), "19: over all headwords");
        Checks.due(19, longest.headword(0, 2), "14: the end of the longest way");
        Checks.refused(REFUSED, () -> longest.refer(19, 0), "18: a circle of all");
    }
}
