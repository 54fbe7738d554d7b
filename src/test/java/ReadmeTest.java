/** The calls of README.md under "How to use it", in their order, with the answers that it tells. */
public final class ReadmeTest {
    private static final DialectDictionary DESK = new DialectDictionary();

    public static void main(String[] args) {
        forms();
        rules();
        refusals();
        commands();
        Checks.end("ReadmeTest");
    }

    private static void forms() {
        Checks.due(27, DESK.addLetter('c', 'h', 3), "27 letters");
        Checks.due(0, Checks.add(DESK, "chas"), "the headword 0");
        Checks.due("(ch)as", Checks.formOf(DESK, 0, -1), "with the letters ch a s");
        Checks.due(3, DESK.letterOf(0, -1, 0), "the place of ch");
        Checks.due(1, Checks.addVariant(DESK, 0, "cha"), "1 variant");
        Checks.due("(ch)a", Checks.formOf(DESK, 0, 0), "ch a");
        Checks.due(1, Checks.add(DESK, "ches"), "the headword 1");
        Checks.due(-1, DESK.compare(0, -1, 1, -1), "a stands before e");
        Checks.due(0, DESK.ordered(0), "the headword that comes first");
        Checks.due(-1, DESK.refer(1, 0), "1 did not refer to any before");
        Checks.due(1, DESK.steps(1, 0), "a step from 1 to 0");
    }

    private static void rules() {
        Checks.due(0, DESK.addRule(0, 5, 0, 0), "the rule 0");
        Checks.due(1, DESK.addRule(19, -1, 0, 3), "the rule 1");
        Checks.due(3, DESK.derived(0, -1, -1, 0), "3 forms");
        Checks.due("(ch)as (ch)es (ch)e", Checks.rowOf(DESK, 0, -1), "chas, ches, che");
        Checks.due(2, DESK.derived(0, -1, 2, -1), "the last one has 2 letters");
        Checks.due(1, DESK.by(0, -1, 2), "the rule that made it");
        Checks.due(1, DESK.proves(0, -1, 1, -1), "by the first step");
        Checks.due(1.0f, DESK.changedShare(), "both main forms are changed");
    }

    private static void refusals() {
        Checks.refused(UnsupportedOperationException.class, () -> DESK.refer(0, 1), "a circle");
        Checks.due(3, DESK.report(0, false), "referring");
        Checks.due(0, DESK.report(0, true), "the headword");
        Checks.due(5, DESK.report(1, false), "a circle would be closed");
        Checks.due(0, DESK.report(1, true), "the end of the headword 1");
    }

    private static void commands() {
        Checks.due(3, Checks.perform(DESK, "+sol;2~sul;2>0"), "3 commands");
        Checks.due(0, DESK.headword(2, 2), "the end of the new headword");
        Checks.due(-103, Checks.perform(DESK, "+so?"), "the place of the error");
        Checks.due(7, DESK.undo(), "7 changes can still be taken back");
        Checks.due(2, DESK.save(), "2 headwords");
        Checks.due(1, DESK.remove(0), "1 reference is gone");
        Checks.due(2, DESK.restore(), "2 headwords again");
        Checks.refused(IllegalStateException.class, DESK::undo, "nothing can be taken back now");
        Checks.due(3, DESK.account(1), "3 forms");
        Checks.due(8, DESK.account(5), "8 letters");
        Checks.due(8.0 / 3.0, DESK.meanLength(), "8 letters in 3 forms");
    }
}
