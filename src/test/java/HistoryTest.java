/** Promises 32 to 34: undo, save and restore. */
public final class HistoryTest {
    private static final Class<?> REFUSED = UnsupportedOperationException.class;
    private static final Class<?> STATE = IllegalStateException.class;

    private interface Change {
        void run(DialectDictionary desk);
    }

    public static void main(String[] args) {
        everyChange();
        changesThatChangeNothing();
        whatIsNoChange();
        eightChanges();
        refusalsCostNoChange();
        bufferAndReportStay();
        save();
        restore();
        Checks.end("HistoryTest");
    }

    private static DialectDictionary filled() {
        DialectDictionary desk = Checks.with("ab", "cd", "ef");
        Checks.perform(desk, "0~x;0~y;0>1");
        desk.addLetter('c', 'h', 2);
        desk.addRule(0, 1, 0, 0);
        desk.addRule(1, -1, 2, 3);
        return desk;
    }

    private static void everyChange() {
        takesBack("addLetter", desk -> desk.addLetter('s', 'h', 0));
        takesBack("moveLetter", desk -> desk.moveLetter(3, 9));
        takesBack("add", desk -> Checks.add(desk, "new"));
        takesBack("addVariant", desk -> Checks.addVariant(desk, 1, "new"));
        takesBack("rename", desk -> Checks.fed(desk, "new").rename(0));
        takesBack("promote", desk -> desk.promote(0, 1));
        takesBack("removeVariant", desk -> desk.removeVariant(0, 0));
        takesBack("remove", desk -> desk.remove(1));
        takesBack("join", desk -> desk.join(2, 0));
        takesBack("refer", desk -> desk.refer(0, 2));
        takesBack("addRule", desk -> desk.addRule(5, 6, 1, 2));
        takesBack("exchange", desk -> desk.exchange(0, 1));
        takesBack("removeRule", desk -> desk.removeRule(0));
        takesBack("perform", desk -> Checks.perform(desk, "+new;3>0;2&1"));
    }

    private static void takesBack(String name, Change change) {
        DialectDictionary desk = filled();
        String before = Checks.stateOf(desk);
        change.run(desk);
        Checks.due(false, before.equals(Checks.stateOf(desk)), "32: something is different by " + name);
        Checks.due(7, desk.undo(), "32: one more change, taken back: " + name);
        Checks.due(before, Checks.stateOf(desk), "32: as it was before " + name);
    }

    private static void changesThatChangeNothing() {
        DialectDictionary desk = Checks.with("a");
        desk.addRule(0, 1, 0, 0);
        desk.moveLetter(4, 4);
        desk.exchange(0, 0);
        desk.refer(0, -1);
        Checks.due(4, desk.undo(), "32: refer to none again");
        Checks.due(3, desk.undo(), "32: exchange with itself");
        Checks.due(2, desk.undo(), "32: move to its own place");
        Checks.due(1, desk.account(3), "32: the rule is there");
        Checks.due(1, desk.undo(), "32: the rule");
        Checks.due(0, desk.account(3), "32: the rule is gone");
    }

    private static void whatIsNoChange() {
        DialectDictionary desk = Checks.with("a", "b");
        desk.save();
        Checks.fed(desk, "a").find();
        desk.headword(0, 5);
        desk.account(7);
        Checks.due(1, desk.undo(), "32: reading, finding and saving are no changes");
        Checks.due(0, desk.undo(), "32: the last one");
        Checks.refused(STATE, desk::undo, "32: there is none");
    }

    private static void eightChanges() {
        DialectDictionary desk = new DialectDictionary();
        for (int count = 0; count < 12; count++) {
            Checks.add(desk, "a" + (char) ('a' + count));
        }
        for (int left = 7; left >= 0; left--) {
            Checks.due(left, desk.undo(), "32: undo of eight");
        }
        Checks.refused(STATE, desk::undo, "32: older ones are gone for good");
        Checks.due(4, desk.account(0), "32: four stay");
        Checks.add(desk, "x");
        Checks.due(0, desk.undo(), "32: a new change can be taken back");
        Checks.refused(STATE, desk::undo, "32: only that");
    }

    private static void refusalsCostNoChange() {
        DialectDictionary desk = new DialectDictionary();
        for (int count = 0; count < 9; count++) {
            Checks.add(desk, "a" + (char) ('a' + count));
        }
        Checks.refused(REFUSED, () -> desk.add(), "6: refused");
        Checks.refused(REFUSED, () -> desk.rename(0), "8: refused");
        Checks.refused(REFUSED, () -> desk.refer(0, 0), "18: refused");
        Checks.refused(REFUSED, () -> Checks.perform(desk, "+x;+aa"), "31: refused");
        for (int left = 7; left >= 0; left--) {
            Checks.due(left, desk.undo(), "32: eight in spite of refusals");
        }
        Checks.due("aa", Checks.formOf(desk, 0, -1), "32: the first one stays");
        Checks.due(1, desk.account(0), "32: and it alone");
    }

    private static void bufferAndReportStay() {
        DialectDictionary desk = Checks.with("a");
        Checks.refused(REFUSED, () -> Checks.add(desk, "a"), "6: refused");
        Checks.fed(desk, "xyz");
        desk.undo();
        Checks.due(3, desk.account(8), "32: the buffer stays");
        Checks.due("1:-1 2:0", Checks.reportOf(desk), "32: the report stays");
        Checks.due(0, desk.add(), "32: the buffer can be used");
        Checks.due("xyz", Checks.formOf(desk, 0, -1), "32: with what it held");
    }

    private static void save() {
        DialectDictionary desk = new DialectDictionary();
        Checks.due(0, desk.save(), "33: without headwords");
        Checks.due(0, desk.restore(), "34: without headwords");
        Checks.add(desk, "a");
        Checks.due(1, desk.save(), "33: one headword, in place of the earlier ones");
        desk.remove(0);
        Checks.due(1, desk.restore(), "34: one headword");
        Checks.due("a", Checks.formOf(desk, 0, -1), "34: with its form");
    }

    private static void restore() {
        DialectDictionary desk = filled();
        Checks.refused(STATE, desk::restore, "34: nothing was saved");
        String before = Checks.stateOf(desk);
        Checks.due(3, desk.save(), "33: three headwords");
        Checks.perform(desk, "+new;3>0;2&1;0~z");
        desk.addLetter('s', 'h', 0);
        desk.exchange(0, 1);
        Checks.refused(REFUSED, () -> Checks.add(desk, "ab"), "6: refused");
        Checks.fed(desk, "qq");
        Checks.due(3, desk.restore(), "34: three headwords");
        Checks.due(before, Checks.stateOf(desk), "34: as they were saved");
        Checks.refused(STATE, desk::undo, "34: no change can be taken back");
        Checks.due(2, desk.account(8), "34: the buffer stays");
        Checks.due("1:-1 2:0", Checks.reportOf(desk), "34: the report stays");
        desk.remove(0);
        Checks.due(0, desk.undo(), "32: a change behind it can");
        desk.remove(0);
        Checks.due(3, desk.restore(), "34: what was saved stays saved");
        Checks.due(before, Checks.stateOf(desk), "34: unchanged");
    }
}
