/** Promises 32 to 34 at their limits: a test for each sentence of the document that names one. */
public final class HistoryEdgesTest {
    private static final Class<?> REFUSED = UnsupportedOperationException.class;
    private static final Class<?> STATE = IllegalStateException.class;

    private record Named(String name, Twins.Call call) {
    }

    private static final Named[] CHANGES = {
        new Named("addLetter", desk -> desk.addLetter('c', 'h', 0)),
        new Named("moveLetter", desk -> desk.moveLetter(0, 25)),
        new Named("add", desk -> Checks.add(desk, "x")),
        new Named("addVariant", desk -> Checks.addVariant(desk, 0, "x")),
        new Named("rename", desk -> Checks.rename(desk, 0, "x")),
        new Named("promote", desk -> desk.promote(0, 0)),
        new Named("removeVariant", desk -> desk.removeVariant(0, 0)),
        new Named("remove", desk -> desk.remove(0)),
        new Named("join", desk -> desk.join(0, 1)),
        new Named("refer", desk -> desk.refer(0, 1)),
        new Named("addRule", desk -> desk.addRule(0, 1, 0, 0)),
        new Named("exchange", desk -> desk.exchange(0, 1)),
        new Named("removeRule", desk -> desk.removeRule(0)),
        new Named("perform", desk -> Checks.perform(desk, "+x;0>1")),
    };

    private static final Named[] NO_DIFFERENCE = {
        new Named("moveLetter to its own place", desk -> desk.moveLetter(3, 3)),
        new Named("refer to the same", desk -> desk.refer(1, 2)),
        new Named("refer to none again", desk -> desk.refer(0, -1)),
        new Named("exchange with itself", desk -> desk.exchange(1, 1)),
        new Named("perform the same reference", desk -> Checks.perform(desk, "1>2")),
    };

    private static final Named[] NO_CHANGES = {
        new Named("feed", desk -> desk.feed('a')),
        new Named("letter", desk -> desk.letter(0, false)),
        new Named("find", desk -> Checks.find(desk, "b")),
        new Named("headword", desk -> desk.headword(0, 5)),
        new Named("letterOf", desk -> desk.letterOf(0, -1, 0)),
        new Named("ordered", desk -> desk.ordered(0)),
        new Named("compare", desk -> desk.compare(0, -1, 1, -1)),
        new Named("steps", desk -> desk.steps(0, 0)),
        new Named("rule", desk -> desk.rule(0, 4)),
        new Named("derived", desk -> desk.derived(0, -1, 0, 0)),
        new Named("by", desk -> desk.by(0, -1, 1)),
        new Named("proves", desk -> desk.proves(0, -1, 1, -1)),
        new Named("account", desk -> desk.account(7)),
        new Named("meanLength", DialectDictionary::meanLength),
        new Named("changedShare", DialectDictionary::changedShare),
        new Named("save", DialectDictionary::save),
        new Named("a syntax error", desk -> Checks.perform(desk, "+x;")),
    };

    /** Each of them throws, whatever the exception. */
    private static final Named[] REFUSALS = {
        new Named("feed", desk -> Checks.fed(desk, "x".repeat(61))),
        new Named("addLetter", desk -> desk.addLetter('?', 'h', 0)),
        new Named("moveLetter", desk -> desk.moveLetter(0, 99)),
        new Named("add", desk -> Checks.add(desk, "b")),
        new Named("addVariant", desk -> Checks.addVariant(desk, 0, "b")),
        new Named("addVariant of none", desk -> desk.addVariant(99)),
        new Named("rename", desk -> Checks.rename(desk, 0, "b")),
        new Named("promote", desk -> desk.promote(0, 1)),
        new Named("removeVariant", desk -> desk.removeVariant(0, 1)),
        new Named("remove", desk -> desk.remove(99)),
        new Named("join", desk -> desk.join(0, 0)),
        new Named("join with none", desk -> desk.join(0, 99)),
        new Named("refer", desk -> desk.refer(0, 0)),
        new Named("refer to -2", desk -> desk.refer(0, -2)),
        new Named("addRule", desk -> desk.addRule(0, 1, 4, 0)),
        new Named("exchange", desk -> desk.exchange(0, 2)),
        new Named("removeRule", desk -> desk.removeRule(2)),
        new Named("perform", desk -> Checks.perform(desk, "+x;0~y;0>0")),
        new Named("perform with no headword", desk -> Checks.perform(desk, "+x;0~y;99>0")),
    };

    public static void main(String[] args) {
        nothingToTakeBack();
        everyChangeIsTakenBack();
        nothingIsDifferent();
        whatIsNoChange();
        refusedCallsAreNoChanges();
        eightLatestChanges();
        eightOfEachKind();
        eightOfManyChanges();
        refusalsAmongEightChanges();
        changesThatAreLeft();
        changesBehindUndo();
        bufferAndReportStay();
        savedThingsStayOverUndo();
        nothingWasSaved();
        numberOfHeadwords();
        inPlaceOfWhatWasSaved();
        allThatIsSaved();
        noChangeAfterRestore();
        staysSaved();
        bufferAndReportStayOverRestore();
        nothingSavedCostsNoChange();
        lastCallOfAnObject();
        Checks.end("HistoryEdgesTest");
    }

    /** Three headwords, a variant, a reference and two rules, made by six changes. */
    private static DialectDictionary six() {
        DialectDictionary desk = new DialectDictionary();
        Checks.perform(desk, "+a;+b;+c");
        Checks.addVariant(desk, 0, "aa");
        desk.refer(1, 2);
        desk.addRule(0, 1, 0, 3);
        desk.addRule(1, 2, 2, 0);
        desk.addLetter('z', 'z', 26);
        return desk;
    }

    private static void nothingToTakeBack() {
        Checks.sentence("32: IllegalStateException if there is none");
        Twins.traceless(DialectDictionary::new, STATE, DialectDictionary::undo, "a new object");
        DialectDictionary desk = Checks.with("a");
        Checks.due(0, desk.undo(), "the only change");
        Checks.refused(STATE, desk::undo, "a second one");
        Checks.due(0, desk.account(0), "no headwords");
        Twins.traceless(() -> Checks.fed(undone(), "xy"), STATE, DialectDictionary::undo, "behind the last one");
    }

    private static DialectDictionary undone() {
        DialectDictionary desk = six();
        for (int change = 0; change < 6; change++) {
            desk.undo();
        }
        return desk;
    }

    private static void everyChangeIsTakenBack() {
        Checks.sentence("32: Takes back the latest change that was not taken back: a successful call of "
                + "addLetter .. or perform");
        for (Named change : CHANGES) {
            DialectDictionary desk = six();
            change.call().run(desk);
            Checks.due(false, Checks.stateOf(six()).equals(Checks.stateOf(desk)), change.name() + " changes something");
            Checks.due(6, desk.undo(), "undo behind " + change.name());
            Checks.due(Checks.stateOf(six()), Checks.stateOf(desk), "what stands without " + change.name());
        }
    }

    private static void nothingIsDifferent() {
        Checks.sentence("32: also if nothing is different then");
        for (Named change : NO_DIFFERENCE) {
            DialectDictionary desk = six();
            change.call().run(desk);
            Checks.due(Checks.stateOf(six()), Checks.stateOf(desk), change.name() + " changes nothing");
            Checks.due(6, desk.undo(), "undo behind " + change.name());
            Checks.due(27, desk.account(4), "the change ahead of " + change.name() + " stays");
            Checks.due(5, desk.undo(), "undo again");
            Checks.due(26, desk.account(4), "takes that one back");
        }
    }

    private static void whatIsNoChange() {
        Checks.sentence("32: a successful call of addLetter, moveLetter, add .. or perform");
        for (Named call : NO_CHANGES) {
            DialectDictionary desk = six();
            call.call().run(desk);
            Checks.due(5, desk.undo(), "undo behind " + call.name());
            Checks.due(26, desk.account(4), "takes the letter back, behind " + call.name());
        }
    }

    private static void refusedCallsAreNoChanges() {
        Checks.sentence("32: a successful call");
        for (Named refusal : REFUSALS) {
            DialectDictionary desk = six();
            Object outcome = Checks.outcome(() -> refusal.call().run(desk));
            Checks.due(true, outcome instanceof String, refusal.name() + " throws");
            Checks.due(Checks.stateOf(six()), Checks.stateOf(desk), "what stands behind " + refusal.name());
            Checks.due(5, desk.undo(), "undo behind " + refusal.name());
            Checks.due(26, desk.account(4), "takes the letter back, behind " + refusal.name());
        }
    }

    private static void eightLatestChanges() {
        Checks.sentence("32: The 8 latest changes are kept; older ones are gone for good.");
        for (int changes = 1; changes <= 19; changes++) {
            DialectDictionary desk = Desks.headwords(changes);
            int kept = Math.min(changes, 8);
            for (int left = kept - 1; left >= 0; left--) {
                Checks.due(left, desk.undo(), "undo of " + changes + " changes");
                Checks.due(changes - kept + left, desk.account(0), "the headwords behind it");
            }
            Checks.refused(STATE, desk::undo, "one more undo of " + changes + " changes");
            Checks.due(changes - kept, desk.account(0), "the headwords that are older");
            Checks.due(changes - kept, Checks.add(desk, "x"), "a headword then");
            Checks.due(0, desk.undo(), "is the only change");
        }
    }

    private static void eightOfEachKind() {
        Checks.sentence("32: The 8 latest changes are kept, whatever their kind");
        for (Named change : CHANGES) {
            DialectDictionary desk = six();
            desk.moveLetter(0, 1);
            desk.moveLetter(1, 0);
            change.call().run(desk);
            for (int left = 7; left >= 0; left--) {
                Checks.due(left, desk.undo(), "undo behind eight changes and " + change.name());
            }
            Checks.refused(STATE, desk::undo, "a ninth undo behind " + change.name());
            Checks.due(3, desk.account(0), "the first change, three headwords, stays behind " + change.name());
            Checks.due(3, desk.account(1), "and it alone");
        }
    }

    private static void eightOfManyChanges() {
        Checks.sentence("32: The 8 latest changes are kept; older ones are gone for good, however many there were");
        for (int changes : new int[] {15, 16, 17, 18, 26, 27, 28, 80, 81, 82, 200}) {
            DialectDictionary desk = new DialectDictionary();
            for (int change = 0; change < changes; change++) {
                desk.moveLetter(25, 0);
            }
            for (int left = 7; left >= 0; left--) {
                Checks.due(left, desk.undo(), "undo of " + changes + " changes");
                int moved = (changes - 8 + left) % 26;
                Checks.due((char) ('a' + (26 - moved) % 26), desk.letter(0, false), "the first letter behind it");
            }
            Checks.refused(STATE, desk::undo, "a ninth undo of " + changes + " changes");
        }
    }

    private static void refusalsAmongEightChanges() {
        Checks.sentence("32: The 8 latest changes are kept, also over refused calls");
        for (Named refusal : REFUSALS) {
            DialectDictionary desk = Desks.headwords(9);
            desk.addRule(0, 1, 0, 0);
            for (int time = 0; time < 3; time++) {
                Checks.outcome(() -> refusal.call().run(desk));
                Checks.outcome(desk::find);
            }
            Checks.due(7, desk.undo(), "undo behind " + refusal.name());
            for (int left = 6; left >= 0; left--) {
                Checks.due(left, desk.undo(), "undo behind " + refusal.name());
                Checks.due(left + 2, desk.account(0), "the headwords behind " + refusal.name());
            }
            Checks.refused(STATE, desk::undo, "a ninth undo behind " + refusal.name());
        }
    }

    private static void changesThatAreLeft() {
        Checks.sentence("32: Returns the number of changes that can still be taken back.");
        DialectDictionary desk = Desks.headwords(3);
        Checks.due(2, desk.undo(), "two are left");
        Checks.add(desk, "x");
        Checks.add(desk, "y");
        Checks.due(3, desk.undo(), "three are left, as two came");
        Checks.due("x", Checks.formOf(desk, 2, -1), "x is there");
        Checks.due(2, desk.undo(), "two are left");
        Checks.due(1, desk.undo(), "one is left");
        Checks.due(0, desk.undo(), "none is left");
    }

    private static void changesBehindUndo() {
        Checks.sentence("32: The 8 latest changes are kept, also behind undo");
        DialectDictionary desk = Desks.headwords(12);
        for (int change = 0; change < 5; change++) {
            desk.undo();
        }
        for (int change = 0; change < 7; change++) {
            Checks.add(desk, "x" + (char) ('a' + change));
        }
        Checks.due(14, desk.account(0), "the headwords");
        for (int left = 7; left >= 0; left--) {
            Checks.due(left, desk.undo(), "undo of three kept and seven new ones");
            Checks.due(6 + left, desk.account(0), "the headwords behind it");
        }
        Checks.refused(STATE, desk::undo, "a ninth undo");
    }

    private static void bufferAndReportStay() {
        Checks.sentence("32: The input buffer and the report stay.");
        DialectDictionary desk = Desks.headwords(2);
        Checks.outcome(() -> desk.join(1, 1));
        Checks.fed(desk, "x".repeat(60));
        desk.undo();
        desk.undo();
        Checks.refused(STATE, desk::undo, "there is none");
        Checks.due(60, desk.account(8), "the characters in the buffer");
        Checks.refused(STATE, () -> desk.feed('x'), "the buffer is full");
        Checks.due("4:1 6:1", Checks.reportOf(desk), "the report of headwords that are gone");
        DialectDictionary empty = Desks.headwords(2);
        empty.undo();
        Checks.due(0, empty.account(8), "the text of the headword does not come back");
        Checks.due("", Checks.reportOf(empty), "there is no report");
    }

    private static void savedThingsStayOverUndo() {
        Checks.sentence("33, 34: what was saved stays saved, also over undo");
        DialectDictionary desk = Desks.headwords(3);
        desk.save();
        desk.undo();
        desk.undo();
        Checks.due(3, desk.restore(), "what was saved ahead of undo");
        Checks.due("c", Checks.formOf(desk, 2, -1), "the headword that was taken back");
    }

    private static void nothingWasSaved() {
        Checks.sentence("34: IllegalStateException if nothing was saved");
        Twins.traceless(DialectDictionary::new, STATE, DialectDictionary::restore, "a new object");
        Twins.traceless(() -> Checks.fed(six(), "xy"), STATE, DialectDictionary::restore, "six changes");
        DialectDictionary desk = new DialectDictionary();
        Checks.due(0, desk.save(), "nothing is saved as it is");
        Checks.due(0, desk.restore(), "which can be restored");
    }

    private static void numberOfHeadwords() {
        Checks.sentence("33, 34: Returns the number of headwords.");
        DialectDictionary desk = Desks.twentyHeadwords();
        Checks.due(20, desk.save(), "save 20");
        desk.undo();
        Checks.due(0, desk.account(0), "none");
        Checks.due(20, desk.restore(), "restore 20");
        desk.remove(0);
        Checks.due(19, desk.save(), "save 19");
        Checks.due(19, desk.restore(), "restore 19");
        for (int headword = 0; headword < 19; headword++) {
            desk.remove(0);
        }
        Checks.due(19, desk.restore(), "restore 19 in place of none");
        DialectDictionary full = Desks.sixtyForms();
        Checks.due(10, full.save(), "save 60 forms");
        full.remove(0);
        Checks.due(10, full.restore(), "restore 60 forms");
        Checks.due(60, full.account(1), "the forms");
        Checks.due(9, Checks.find(full, "ej"), "the last form");
    }

    private static void inPlaceOfWhatWasSaved() {
        Checks.sentence("33: in place of what was saved before");
        DialectDictionary desk = Desks.headwords(5);
        Checks.due(5, desk.save(), "save five");
        desk.remove(0);
        desk.remove(0);
        Checks.due(3, desk.save(), "save three");
        desk.remove(0);
        Checks.due(3, desk.restore(), "three, not five");
        Checks.due("c", Checks.formOf(desk, 0, -1), "the first of them");
    }

    private static void allThatIsSaved() {
        Checks.sentence("33: Saves the alphabet, the headwords with their forms and references, and the rules");
        for (Named change : CHANGES) {
            DialectDictionary desk = six();
            Checks.due(3, desk.save(), "save ahead of " + change.name());
            change.call().run(desk);
            Checks.due(3, desk.restore(), "restore behind " + change.name());
            Checks.due(Checks.stateOf(six()), Checks.stateOf(desk), "what stands behind " + change.name());
            Checks.refused(STATE, desk::undo, "no change is left behind " + change.name());
        }
        DialectDictionary other = six();
        other.save();
        for (int change = 0; change < 6; change++) {
            other.undo();
        }
        other.restore();
        Checks.due(Checks.stateOf(six()), Checks.stateOf(other), "what stands in place of a new object");
        otherLettersCame();
    }

    private static void otherLettersCame() {
        DialectDictionary desk = Desks.letters(2);
        Checks.add(desk, "qaqb");
        desk.save();
        desk.undo();
        desk.undo();
        desk.undo();
        desk.addLetter('c', 'h', 0);
        desk.addLetter('s', 'h', 0);
        desk.addLetter('t', 'h', 0);
        Checks.due(1, desk.restore(), "restore behind other letters");
        Checks.due("z qa qb", Checks.alphabetOf(desk).substring(50), "the letters that were saved");
        Checks.due(28, desk.account(4), "and no others");
        Checks.due("(qa)(qb)", Checks.formOf(desk, 0, -1), "the form");
        Checks.due(1, Checks.add(desk, "chsh"), "the other letters are none any more");
        Checks.due("chsh", Checks.formOf(desk, 1, -1), "but two characters each");
    }

    private static void noChangeAfterRestore() {
        Checks.sentence("34: No change can be taken back afterwards.");
        DialectDictionary desk = Desks.headwords(9);
        desk.save();
        desk.restore();
        Checks.refused(STATE, desk::undo, "eight changes ahead of it");
        Checks.due(9, desk.account(0), "the headwords stay");
        Checks.add(desk, "x");
        Checks.due(0, desk.undo(), "a change behind it");
        Checks.refused(STATE, desk::undo, "and no other one");
        for (int change = 0; change < 9; change++) {
            Checks.add(desk, "x" + (char) ('a' + change));
        }
        for (int left = 7; left >= 0; left--) {
            Checks.due(left, desk.undo(), "eight changes behind it");
        }
        Checks.refused(STATE, desk::undo, "a ninth one");
        Checks.due(10, desk.account(0), "the first one of nine stays");
    }

    private static void staysSaved() {
        Checks.sentence("34: Restores what was saved, which stays saved");
        DialectDictionary desk = six();
        desk.save();
        for (int time = 0; time < 3; time++) {
            desk.restore();
            CHANGES[time].call().run(desk);
            Checks.perform(desk, "0&1;0~q");
            desk.removeRule(0);
        }
        Checks.due(3, desk.restore(), "again, behind changes of what was restored");
        Checks.due(Checks.stateOf(six()), Checks.stateOf(desk), "what stands");
    }

    private static void bufferAndReportStayOverRestore() {
        Checks.sentence("34: the input buffer and the report stay");
        DialectDictionary desk = Desks.headwords(2);
        desk.save();
        Checks.outcome(() -> desk.join(1, 1));
        Checks.fed(desk, "xy");
        desk.restore();
        Checks.due("4:1 6:1", Checks.reportOf(desk), "the report");
        Checks.due(2, desk.account(8), "the characters in the buffer");
        Checks.due(2, desk.add(), "the headword of them");
        Checks.due("xy", Checks.formOf(desk, 2, -1), "its form");
        DialectDictionary earlier = Desks.headwords(2);
        Checks.outcome(() -> earlier.join(1, 1));
        Checks.fed(earlier, "xy");
        earlier.save();
        Checks.refused(REFUSED, () -> Checks.add(earlier, ";"), "add");
        earlier.restore();
        Checks.due("1:-1 1:0", Checks.reportOf(earlier), "the report is not that of the time of saving");
        Checks.due(0, earlier.account(8), "nor the buffer");
    }

    private static void nothingSavedCostsNoChange() {
        Checks.sentence("Terms: A method that throws an exception leaves the state unchanged");
        DialectDictionary desk = Desks.headwords(9);
        Checks.refused(STATE, desk::restore, "nothing was saved");
        for (int left = 7; left >= 0; left--) {
            Checks.due(left, desk.undo(), "the changes can be taken back");
        }
    }

    private static void lastCallOfAnObject() {
        Checks.sentence("Face: An object is used for at most 512 calls after it has been made");
        DialectDictionary desk = new DialectDictionary();
        for (int time = 0; time < 128; time++) {
            Checks.due(1, desk.feed('x'), "call " + (4 * time + 1));
            Checks.due(0, desk.add(), "call " + (4 * time + 2));
            Checks.due(0, desk.remove(0), "call " + (4 * time + 3));
            Checks.due(0, desk.account(0), "call " + (4 * time + 4));
        }
    }
}
