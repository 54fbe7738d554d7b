import java.util.NoSuchElementException;

/** Promises 27 to 30 and reports at their limits: a test for each sentence of the document that names one. */
public final class ReportsEdgesTest {
    private static final Class<?> ARGUMENT = IllegalArgumentException.class;
    private static final Class<?> ARITHMETIC = ArithmeticException.class;
    private static final Class<?> REFUSED = UnsupportedOperationException.class;
    private static final Class<?> MISSING = NoSuchElementException.class;

    public static void main(String[] args) {
        noReport();
        levels();
        levelsOfACommand();
        replacesTheEarlierOne();
        staysUntilTheNextOne();
        numberOfWhatWasToBeDone();
        minusOneForANewOne();
        numberOfTheCommand();
        whatOfAccounts();
        accountsOfNothing();
        accountsAtTheLimits();
        headwordsWithoutReferences();
        differentResults();
        noForms();
        meanLength();
        noHeadwords();
        changedShare();
        Checks.end("ReportsEdgesTest");
    }

    private static void noReport() {
        Checks.sentence("27: NoSuchElementException if there is no such level, or no report");
        for (int level : new int[] {-1, 0, 1, 2, 3, Integer.MIN_VALUE, Integer.MAX_VALUE}) {
            Twins.traceless(DialectDictionary::new, MISSING, d -> d.report(level, false), "level " + level);
            Twins.traceless(DialectDictionary::new, MISSING, d -> d.report(level, true), "the detail of " + level);
        }
        DialectDictionary desk = Checks.with("a", "b");
        desk.refer(0, 1);
        Checks.perform(desk, "+c;0~d");
        Checks.refused(MISSING, () -> desk.report(0, false), "behind what was not refused");
    }

    private static DialectDictionary reported() {
        DialectDictionary desk = Checks.with("a", "b");
        Checks.outcome(() -> desk.join(1, 1));
        return desk;
    }

    private static void levels() {
        Checks.sentence("Reports: level 0 of it has the number of what was to be done and the headword; level "
                + "1, its cause, the reason and the detail");
        DialectDictionary desk = reported();
        Checks.due(4, desk.report(0, false), "level 0");
        Checks.due(1, desk.report(0, true), "the detail of level 0");
        Checks.due(6, desk.report(1, false), "level 1");
        Checks.due(1, desk.report(1, true), "the detail of level 1");
        for (int level : new int[] {-1, 2, 3, Integer.MIN_VALUE, Integer.MAX_VALUE}) {
            Twins.traceless(ReportsEdgesTest::reported, MISSING, d -> d.report(level, false), "level " + level);
            Twins.traceless(ReportsEdgesTest::reported, MISSING, d -> d.report(level, true), "detail of " + level);
        }
    }

    private static DialectDictionary reportedCommand() {
        DialectDictionary desk = Checks.with("a", "b");
        Checks.outcome(() -> Checks.perform(desk, "0>1;1>0"));
        return desk;
    }

    private static void levelsOfACommand() {
        Checks.sentence("Reports: If it was a command of a text, there is one more level ahead of these, with 9 "
                + "and the number of the command, from 0.");
        DialectDictionary desk = reportedCommand();
        int[] want = {9, 1, 3, 1, 5, 1};
        for (int level = 0; level < 3; level++) {
            Checks.due(want[2 * level], desk.report(level, false), "level " + level);
            Checks.due(want[2 * level + 1], desk.report(level, true), "the detail of level " + level);
        }
        for (int level : new int[] {-1, 3, 4, Integer.MIN_VALUE, Integer.MAX_VALUE}) {
            Twins.traceless(ReportsEdgesTest::reportedCommand, MISSING, d -> d.report(level, false), "level " + level);
        }
    }

    private static void replacesTheEarlierOne() {
        Checks.sentence("Reports: What is refused leaves a report, which replaces the earlier one");
        DialectDictionary desk = reportedCommand();
        Checks.refused(REFUSED, () -> Checks.add(desk, "a"), "add");
        Checks.due("1:-1 2:0", Checks.reportOf(desk), "two levels in place of three");
        Checks.refused(MISSING, () -> desk.report(2, false), "level 2");
        Checks.refused(REFUSED, () -> Checks.perform(desk, "+b"), "perform");
        Checks.due("9:0 1:-1 2:1", Checks.reportOf(desk), "three levels in place of two");
        Checks.refused(REFUSED, () -> Checks.perform(desk, "0&0"), "perform again");
        Checks.due("9:0 4:0 6:0", Checks.reportOf(desk), "three levels in place of three");
        Checks.refused(REFUSED, desk::add, "add without a text");
        Checks.due("1:-1 1:0", Checks.reportOf(desk), "with the detail 0");
    }

    private static void staysUntilTheNextOne() {
        Checks.sentence("Reports: and stays until the next one");
        DialectDictionary desk = reportedCommand();
        desk.refer(0, 1);
        Checks.add(desk, "c");
        Checks.outcome(() -> desk.addVariant(9));
        Checks.outcome(() -> desk.remove(9));
        Checks.outcome(() -> desk.headword(0, 9));
        Checks.outcome(() -> desk.addLetter('?', '?', 0));
        Checks.outcome(() -> Checks.find(desk, "?"));
        Checks.outcome(() -> Checks.perform(desk, "0>"));
        Checks.outcome(() -> Checks.perform(desk, "9>0"));
        Checks.outcome(() -> Checks.perform(desk, "0>2;+d;4~x"));
        desk.save();
        desk.undo();
        desk.restore();
        desk.remove(0);
        Checks.due("9:1 3:1 5:1", Checks.reportOf(desk), "behind calls that leave none");
    }

    private static void numberOfWhatWasToBeDone() {
        Checks.sentence("Reports: 1 making a headword, 2 adding a variant, 3 referring, 4 joining, 5 renaming");
        Twins.Maker maker = () -> Checks.with("a", "b");
        Twins.refusesText(maker, "b", DialectDictionary::add, "1:-1 2:1", "making");
        Twins.refusesText(maker, "b", d -> d.addVariant(0), "2:0 2:1", "adding");
        Twins.reporting(maker, d -> d.refer(1, 1), "3:1 5:1", "referring");
        Twins.reporting(maker, d -> d.join(1, 1), "4:1 6:1", "joining");
        Twins.refusesText(maker, "b", d -> d.rename(0), "5:0 2:1", "renaming");
        Twins.refusesText(maker, "+b", DialectDictionary::perform, "9:0 1:-1 2:1", "making by a text");
        Twins.refusesText(maker, "0~b", DialectDictionary::perform, "9:0 2:0 2:1", "adding by a text");
        Twins.refusesText(maker, "1>1", DialectDictionary::perform, "9:0 3:1 5:1", "referring by a text");
        Twins.refusesText(maker, "1&1", DialectDictionary::perform, "9:0 4:1 6:1", "joining by a text");
    }

    private static void minusOneForANewOne() {
        Checks.sentence("Reports: and the headword, or -1 for a new one");
        Twins.refusesText(DialectDictionary::new, "", DialectDictionary::add, "1:-1 1:0", "the first one");
        Twins.refusesText(Desks::twentyHeadwords, "x", DialectDictionary::add, "1:-1 3:20", "the 21st one");
        Twins.refusesText(Desks::twentyHeadwords, "a", d -> d.rename(19), "5:19 2:0", "headword 19");
        Twins.refusesText(Desks::twentyHeadwords, "a", d -> d.rename(0), "5:0 2:0", "headword 0");
    }

    private static void numberOfTheCommand() {
        Checks.sentence("Reports: with 9 and the number of the command, from 0");
        Twins.refusesText(DialectDictionary::new, Desks.TWENTY.substring(0, 57) + "+a", DialectDictionary::perform,
                "9:19 1:-1 2:0", "the last of 20 commands");
        Twins.refusesText(() -> Checks.with("t"), Desks.TWENTY, DialectDictionary::perform, "9:19 1:-1 2:0",
                "the last of 20 commands, which makes the 21st headword");
        Twins.refusesText(() -> Checks.with("a"), Desks.TWENTY, DialectDictionary::perform, "9:0 1:-1 2:0",
                "the first of 20 commands");
        Twins.refusesText(() -> Checks.with("x"), Desks.TWENTY, DialectDictionary::perform, "9:19 1:-1 3:20",
                "the 21st headword by the last of 20 commands");
    }

    private static void whatOfAccounts() {
        Checks.sentence("28: IllegalArgumentException if what is out of range");
        for (int what : new int[] {-1, 9, 10, Integer.MIN_VALUE, Integer.MAX_VALUE}) {
            Twins.traceless(DialectDictionary::new, ARGUMENT, d -> d.account(what), "what " + what);
            Twins.traceless(ReportsEdgesTest::reported, ARGUMENT, d -> d.account(what), "what " + what);
        }
        DialectDictionary desk = Checks.fed(reported(), "xyz");
        Checks.due(2, desk.account(0), "what 0");
        Checks.due(3, desk.account(8), "what 8");
    }

    private static void accountsOfNothing() {
        Checks.sentence("28: what: 0 .. 8");
        DialectDictionary desk = Checks.with("abc");
        desk.addRule(0, 1, 0, 0);
        desk.remove(0);
        desk.removeRule(0);
        int[] want = {0, 0, 0, 0, 26, 0, 0, 0, 0};
        for (int what = 0; what < 9; what++) {
            Checks.due(want[what], desk.account(what), "account(" + what + ") of what is empty again");
        }
    }

    private static void accountsAtTheLimits() {
        Checks.sentence("28: what: 0 .. 8, at the limits");
        DialectDictionary desk = Desks.twentyHeadwordsAndSixtyForms();
        Checks.due(20, desk.account(0), "the headwords");
        Checks.due(60, desk.account(1), "all forms");
        Checks.due(100, desk.account(5), "the letters of all forms");
        Checks.due(20, desk.account(6), "the headwords without references");
        Checks.due(20, desk.account(7), "the different results");
        Checks.fed(desk, "x".repeat(60));
        Checks.due(60, desk.account(8), "the characters in the buffer");
        Checks.due(19, Desks.chain(20).account(2), "the references");
        Checks.due(8, Desks.rules(8).account(3), "the rules");
        Checks.due(36, Desks.letters(10).account(4), "the letters of the alphabet");
        DialectDictionary eight = Checks.with("abcdefgh");
        eight.addLetter('c', 'h', 0);
        Checks.perform(eight, "0~chchchchchchchch;0~ch");
        Checks.due(17, eight.account(5), "letters, not characters");
    }

    private static void headwordsWithoutReferences() {
        Checks.sentence("28: 6 the headwords that refer to none and to which none refers");
        Checks.due(0, Desks.chain(20).account(6), "a chain of all");
        Checks.due(1, Desks.chain(1).account(6), "the only headword");
        DialectDictionary desk = Desks.headwords(3);
        Checks.due(3, desk.account(6), "none refers");
        desk.refer(0, 1);
        Checks.due(1, desk.account(6), "one refers to another one");
        desk.refer(2, 1);
        Checks.due(0, desk.account(6), "two refer to one");
        desk.remove(1);
        Checks.due(2, desk.account(6), "the one is removed");
    }

    private static void differentResults() {
        Checks.sentence("28: 7 the different results of all main forms");
        DialectDictionary desk = Desks.rules(8, "a", "b", "c", "d", "e", "f", "g", "h", "i", "x");
        Checks.due(2, desk.account(7), "nine become i, one stays");
        desk.removeRule(7);
        Checks.due(3, desk.account(7), "eight become h, two stay");
        DialectDictionary back = Checks.with("a", "b");
        back.addRule(0, 1, 0, 0);
        Checks.due(1, back.account(7), "a form that stays and one that becomes it");
        back.addRule(1, 0, 0, 0);
        Checks.due(1, back.account(7), "a form that comes back and one that becomes it");
        back.addRule(0, 1, 0, 3);
        Checks.due(1, back.account(7), "and on");
    }

    private static void noForms() {
        Checks.sentence("29: ArithmeticException if there are no forms");
        Twins.traceless(DialectDictionary::new, ARITHMETIC, DialectDictionary::meanLength, "a new object");
        Twins.traceless(() -> Desks.rules(8), ARITHMETIC, DialectDictionary::meanLength, "rules alone");
        DialectDictionary desk = Checks.with("a");
        Checks.due(1.0, desk.meanLength(), "one form");
        desk.undo();
        Checks.refused(ARITHMETIC, desk::meanLength, "it was taken back");
        Checks.add(desk, "ab");
        desk.remove(0);
        Checks.refused(ARITHMETIC, desk::meanLength, "it was removed");
    }

    private static void meanLength() {
        Checks.sentence("29: the sum of their letters, as a double, divided by their number, as a double");
        Checks.due(8.0, Checks.with("abcdefgh").meanLength(), "the longest form");
        Checks.due(4.5, Checks.with("abcdefgh", "a").meanLength(), "the longest and the shortest");
        Checks.due(100.0 / 60.0, Desks.twentyHeadwordsAndSixtyForms().meanLength(), "60 forms");
        Checks.due(110.0 / 60.0, Desks.sixtyForms().meanLength(), "60 forms of ten headwords");
        Checks.due(4.0 / 3.0, Checks.with("a", "b", "cd").meanLength(), "a third");
        DialectDictionary variant = Checks.with("a");
        Checks.addVariant(variant, 0, "abcdefgh");
        Checks.due(4.5, variant.meanLength(), "variants count");
    }

    private static void noHeadwords() {
        Checks.sentence("30: ArithmeticException if there are no headwords");
        Twins.traceless(DialectDictionary::new, ARITHMETIC, DialectDictionary::changedShare, "a new object");
        Twins.traceless(() -> Desks.rules(8), ARITHMETIC, DialectDictionary::changedShare, "rules alone");
        DialectDictionary desk = Checks.with("a");
        Checks.due(0.0f, desk.changedShare(), "one headword without rules");
        desk.remove(0);
        Checks.refused(ARITHMETIC, desk::changedShare, "it was removed");
        desk.undo();
        Checks.due(0.0f, desk.changedShare(), "it is there again");
    }

    private static void changedShare() {
        Checks.sentence("30: the number of main forms whose result is another form, as a float, divided by the "
                + "number of headwords, as a float");
        DialectDictionary desk = Desks.headwords(20);
        Checks.due(0.0f, desk.changedShare(), "none of 20");
        desk.addRule(0, 1, 0, 0);
        Checks.due(1.0f / 20.0f, desk.changedShare(), "one of 20");
        for (int rule = 1; rule < 8; rule++) {
            desk.addRule(rule, 25, 0, 0);
        }
        Checks.due(8.0f / 20.0f, desk.changedShare(), "eight of 20");
        DialectDictionary all = Desks.rules(1, "a", "ab", "ca");
        Checks.due(1.0f, all.changedShare(), "all of three");
        Checks.add(all, "b");
        Checks.due(0.75f, all.changedShare(), "three of four");
        Checks.addVariant(all, 3, "aa");
        Checks.due(0.75f, all.changedShare(), "variants do not count");
        DialectDictionary third = Desks.rules(1, "b", "c", "a");
        Checks.due(1.0f / 3.0f, third.changedShare(), "one of three");
    }
}
