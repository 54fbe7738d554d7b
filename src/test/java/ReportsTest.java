import java.util.NoSuchElementException;

/** Promises 27 to 30: reports, accounts, the mean length and the changed share. */
public final class ReportsTest {
    private static final Class<?> ARGUMENT = IllegalArgumentException.class;
    private static final Class<?> ARITHMETIC = ArithmeticException.class;
    private static final Class<?> REFUSED = UnsupportedOperationException.class;
    private static final Class<?> MISSING = NoSuchElementException.class;

    public static void main(String[] args) {
        report();
        reportStays();
        account();
        differentResults();
        meanLength();
        changedShare();
        Checks.end("ReportsTest");
    }

    private static void report() {
        DialectDictionary desk = Checks.with("a");
        Checks.refused(MISSING, () -> desk.report(0, false), "27: no report");
        Checks.refused(REFUSED, () -> Checks.fed(desk, "a").rename(0), "8: refused");
        Checks.due(5, desk.report(0, false), "27: what was to be done");
        Checks.due(0, desk.report(0, true), "27: the headword");
        Checks.due(2, desk.report(1, false), "27: the reason");
        Checks.due(0, desk.report(1, true), "27: the detail");
        Checks.refused(MISSING, () -> desk.report(2, false), "27: level 2");
        Checks.refused(MISSING, () -> desk.report(-1, true), "27: level -1");
        Checks.refused(REFUSED, () -> Checks.perform(desk, "+b;+b"), "31: refused");
        Checks.due("9:1 1:-1 2:1", Checks.reportOf(desk), "27: three levels");
        Checks.refused(MISSING, () -> desk.report(3, false), "27: level 3");
        Checks.refused(REFUSED, () -> desk.refer(0, 0), "18: refused");
        Checks.due("3:0 5:0", Checks.reportOf(desk), "27: two levels again");
    }

    private static void reportStays() {
        DialectDictionary desk = Checks.with("a", "b");
        Checks.refused(REFUSED, () -> desk.join(1, 1), "12: refused");
        desk.refer(0, 1);
        Checks.due(-105, Checks.perform(desk, "+c;0>"), "31: a syntax error");
        Checks.refused(REFUSED, () -> Checks.perform(desk, "9>0"), "31: refused without a report");
        Checks.refused(MISSING, () -> Checks.fed(desk, "x").find(), "13: not found");
        Checks.due("4:1 6:1", Checks.reportOf(desk), "27: the report stays until the next one");
        desk.undo();
        desk.save();
        desk.restore();
        Checks.due("4:1 6:1", Checks.reportOf(desk), "32, 34: also over undo and restore");
    }

    private static void account() {
        DialectDictionary desk = Checks.with("ab", "cde", "f", "g");
        Checks.perform(desk, "0~hi;0~j;0>1");
        desk.addRule(5, 6, 0, 0);
        desk.addLetter('c', 'h', 0);
        Checks.fed(desk, "xyz#");
        int[] want = {4, 6, 1, 1, 27, 10, 2, 3, 4};
        for (int what = 0; what < 9; what++) {
            Checks.due(want[what], desk.account(what), "28: account(" + what + ")");
        }
        Checks.refused(ARGUMENT, () -> desk.account(9), "28: what 9");
        Checks.refused(ARGUMENT, () -> desk.account(-1), "28: what -1");
    }

    private static void differentResults() {
        DialectDictionary desk = Checks.with("a", "b", "c", "d");
        Checks.due(4, desk.account(7), "28: without rules");
        desk.addRule(0, 2, 0, 0);
        Checks.due(3, desk.account(7), "28: two of four meet");
        desk.addRule(1, 2, 0, 0);
        desk.addRule(3, 2, 0, 0);
        Checks.due(1, desk.account(7), "28: all meet");
        Checks.addVariant(desk, 0, "z");
        Checks.due(1, desk.account(7), "28: variants do not count");
    }

    private static void meanLength() {
        DialectDictionary desk = new DialectDictionary();
        Checks.refused(ARITHMETIC, desk::meanLength, "29: no forms");
        Checks.add(desk, "abc");
        Checks.due(3.0, desk.meanLength(), "29: one form");
        Checks.addVariant(desk, 0, "d");
        Checks.due(2.0, desk.meanLength(), "29: variants count");
        Checks.add(desk, "e");
        Checks.due(5.0 / 3.0, desk.meanLength(), "29: as doubles");
        desk.remove(0);
        desk.remove(0);
        Checks.refused(ARITHMETIC, desk::meanLength, "29: no forms any more");
    }

    private static void changedShare() {
        DialectDictionary desk = new DialectDictionary();
        Checks.refused(ARITHMETIC, desk::changedShare, "30: no headwords");
        Checks.add(desk, "a");
        Checks.add(desk, "b");
        Checks.add(desk, "c");
        Checks.addVariant(desk, 2, "aa");
        Checks.due(0.0f, desk.changedShare(), "30: without rules");
        desk.addRule(0, 1, 0, 0);
        Checks.due(1.0f / 3.0f, desk.changedShare(), "30: one of three, as floats");
        desk.addRule(2, 1, 0, 0);
        Checks.due(2.0f / 3.0f, desk.changedShare(), "30: two of three");
        desk.addRule(1, 0, 0, 0);
        Checks.due(2.0f / 3.0f, desk.changedShare(), "30: what comes back is not changed");
    }
}
