/**
 * Two objects that are made by the same calls. One of them gets a refused call more, and then both are to answer alike
 * to the very end: what stands, every change that can be taken back, what was saved, and the characters in the buffer.
 */
final class Twins {
    interface Maker {
        DialectDictionary make();
    }

    interface Call {
        Object run(DialectDictionary desk);
    }

    /** With more forms than these, an object has not calls enough to tell each letter of them. */
    private static final int FORMS_TO_TELL = 25;

    private Twins() {
    }

    /** A call that throws and leaves no trace: the report and the buffer stay too. */
    static void traceless(Maker maker, Class<?> want, Call call, String name) {
        DialectDictionary called = maker.make();
        DialectDictionary spared = maker.make();
        Checks.refused(want, () -> call.run(called), name);
        Checks.due(Checks.reportOf(spared), Checks.reportOf(called), name + ": the report stays");
        same(spared, called, name);
    }

    /** A refusal that leaves a report, and the buffer as it is. */
    static void reporting(Maker maker, Call call, String report, String name) {
        DialectDictionary called = maker.make();
        Checks.refused(UnsupportedOperationException.class, () -> call.run(called), name);
        Checks.due(report, Checks.reportOf(called), name + ": its report");
        same(maker.make(), called, name);
    }

    /** A refusal that leaves a report and an empty buffer. */
    static void emptying(Maker maker, Call call, String report, String name) {
        DialectDictionary called = maker.make();
        DialectDictionary spared = maker.make();
        Checks.outcome(spared::find);
        Checks.refused(UnsupportedOperationException.class, () -> call.run(called), name);
        Checks.due(0, called.account(8), name + ": the buffer is empty");
        Checks.due(report, Checks.reportOf(called), name + ": its report");
        same(spared, called, name);
    }

    /** As emptying, with the text fed to a buffer that was empty. */
    static void refusesText(Maker maker, String text, Call call, String report, String name) {
        emptying(() -> Checks.fed(maker.make(), text), call, report, name + " \"" + text + "\"");
    }

    /** Tells the first line alone that is different. */
    private static void same(DialectDictionary spared, DialectDictionary called, String name) {
        String[] want = traceOf(spared).split("\n");
        String[] got = traceOf(called).split("\n");
        int line = 0;
        while (line < want.length - 1 && line < got.length - 1 && want[line].equals(got[line])) {
            line++;
        }
        Checks.due(want[line], got[line], name + ": all else stays");
    }

    private static String traceOf(DialectDictionary desk) {
        StringBuilder text = new StringBuilder();
        text.append(desk.account(8)).append('\n');
        text.append(desk.account(1) > FORMS_TO_TELL ? Checks.outlineOf(desk) : Checks.stateOf(desk));
        for (int change = 0; change <= 8; change++) {
            text.append("\nundo ").append(Checks.outcome(desk::undo)).append(sizesOf(desk));
        }
        text.append("\nrestore ").append(Checks.outcome(desk::restore)).append(sizesOf(desk));
        Object added = Checks.outcome(desk::add);
        text.append("\nadd ").append(added).append(sizesOf(desk));
        if (!(added instanceof Integer)) {
            text.append(' ').append(desk.report(1, true));
        }
        return text.toString();
    }

    private static String sizesOf(DialectDictionary desk) {
        StringBuilder text = new StringBuilder();
        for (int what = 0; what < 6; what++) {
            text.append(' ').append(desk.account(what));
        }
        return text.toString();
    }
}
