import java.util.NoSuchElementException;

/** Promises 12, 18 and 19, references and the refusals 5 to 7 at their limits: a test for each such sentence. */
public final class ReferencesEdgesTest {
    private static final Class<?> BOUNDS = IndexOutOfBoundsException.class;
    private static final Class<?> MISSING = NoSuchElementException.class;

    public static void main(String[] args) {
        headwordsThatRefer();
        headwordsToReferTo();
        inPlaceOfAnEarlierReference();
        circles();
        longestCircle();
        bothAreTheSame();
        noCircle();
        endOfAHeadword();
        referencesToARemovedHeadword();
        headwordsOfSteps();
        numberOfSteps();
        oneDoesNotArrive();
        headwordsToJoin();
        joinedToItself();
        fiveVariantsByJoining();
        moreThanFiveByJoining();
        circleByJoining();
        noCircleByJoining();
        firstReasonOfJoining();
        formsOfAJoinedHeadword();
        referencesToAJoinedHeadword();
        ownReferenceIsGone();
        numbersBehindJoining();
        bufferStays();
        Checks.end("ReferencesEdgesTest");
    }

    /** A chain a > b > c > d .. with a text in the buffer. */
    private static Twins.Maker chain(int count) {
        return () -> Checks.fed(Desks.chain(count), "xy");
    }

    private static String references(DialectDictionary desk) {
        StringBuilder text = new StringBuilder();
        for (int headword = 0; headword < desk.account(0); headword++) {
            text.append(desk.headword(headword, 1)).append(' ');
        }
        return text.toString().trim();
    }

    private static void headwordsThatRefer() {
        Checks.sentence("18: headword: IndexOutOfBoundsException if there is no such headword");
        for (int headword : new int[] {-1, 4, 20, Integer.MIN_VALUE, Integer.MAX_VALUE}) {
            Twins.traceless(chain(4), BOUNDS, d -> d.refer(headword, 0), headword + " to 0");
            Twins.traceless(chain(4), BOUNDS, d -> d.refer(headword, -1), headword + " to none");
            Twins.traceless(chain(4), BOUNDS, d -> d.refer(headword, headword), headword + " to itself");
        }
        Twins.traceless(DialectDictionary::new, BOUNDS, d -> d.refer(0, -1), "0 of none to none");
        Checks.due(-1, Desks.headwords(20).refer(19, 0), "19 to 0");
        Checks.due(-1, Desks.headwords(20).refer(0, 19), "0 to 19");
        Twins.traceless(chain(20), BOUNDS, d -> d.refer(20, 0), "20 to 0");
    }

    private static void headwordsToReferTo() {
        Checks.sentence("18: other: the headword to which it refers then, or -1 for none");
        for (int other : new int[] {-2, 4, 20, Integer.MIN_VALUE, Integer.MAX_VALUE}) {
            Twins.traceless(chain(4), BOUNDS, d -> d.refer(0, other), "0 to " + other);
        }
        DialectDictionary desk = Desks.chain(4);
        Checks.due(1, desk.refer(0, -1), "0 to none");
        Checks.due("-1 2 3 -1", references(desk), "it refers to none");
        Checks.due(-1, desk.refer(3, -1), "3 to none, as it did");
        Checks.due(-1, desk.refer(0, 3), "0 to the last");
        Checks.due("3 2 3 -1", references(desk), "it refers to the last");
        Checks.due(3, desk.refer(0, 3), "the same again");
    }

    private static void inPlaceOfAnEarlierReference() {
        Checks.sentence("18: Lets a headword refer to another one, in place of an earlier reference.");
        DialectDictionary desk = Desks.chain(4);
        Checks.due(1, desk.refer(0, 2), "0 to 2");
        Checks.due(3, desk.account(2), "the number of references stays");
        Checks.due(0, desk.headword(1, 3), "none refers to 1");
        Checks.due(2, desk.headword(2, 3), "two refer to 2");
        Checks.due(-1, Desks.headwords(2).refer(0, 1), "without an earlier one");
    }

    private static void circles() {
        Checks.sentence("Refusals: 5, a reference would close a circle: the end of the headword to which it "
                + "would lead");
        Twins.reporting(chain(2), d -> d.refer(1, 0), "3:1 5:1", "a circle of two");
        Twins.reporting(chain(4), d -> d.refer(3, 0), "3:3 5:3", "a circle of four");
        Twins.reporting(chain(4), d -> d.refer(3, 2), "3:3 5:3", "a circle of the last two");
        Twins.reporting(chain(4), d -> d.refer(1, 0), "3:1 5:3", "a circle of the first two");
        Twins.reporting(chain(4), d -> d.refer(2, 0), "3:2 5:3", "a circle of the first three");
        Checks.sentence("Details: that of a refused reference the headword that was to refer");
        Twins.reporting(ReferencesEdgesTest::endInTheMiddle, d -> d.refer(3, 0), "3:3 5:1", "another end");
    }

    /** a > d > b, and c alone. */
    private static DialectDictionary endInTheMiddle() {
        DialectDictionary desk = Desks.headwords(4);
        desk.refer(0, 3);
        desk.refer(3, 1);
        return desk;
    }

    private static void longestCircle() {
        Checks.sentence("References: A reference that would close a circle of references is refused.");
        Twins.reporting(chain(20), d -> d.refer(19, 0), "3:19 5:19", "a circle of all");
        Twins.reporting(chain(20), d -> d.refer(19, 1), "3:19 5:19", "a circle of all but one");
        Twins.reporting(chain(20), d -> d.refer(1, 0), "3:1 5:19", "a circle at the beginning");
        DialectDictionary desk = Desks.chain(20);
        Checks.due(1, desk.refer(0, -1), "without the first reference");
        Checks.due(-1, desk.refer(19, 0), "from the last to the first");
        Checks.due(0, desk.headword(1, 2), "the end of the second");
        Checks.due(19, desk.steps(1, 0), "by 19 references");
    }

    private static void bothAreTheSame() {
        Checks.sentence("18: refused for the reason 5, also if both are the same");
        Twins.reporting(chain(1), d -> d.refer(0, 0), "3:0 5:0", "the only headword to itself");
        Twins.reporting(chain(4), d -> d.refer(3, 3), "3:3 5:3", "the end to itself");
        Twins.reporting(chain(4), d -> d.refer(0, 0), "3:0 5:3", "one that refers to another, to itself");
        Twins.reporting(chain(20), d -> d.refer(18, 18), "3:18 5:19", "one of 20 to itself");
    }

    private static void noCircle() {
        Checks.sentence("18: Returns the headword to which it referred before, -1 without one.");
        DialectDictionary desk = Desks.chain(4);
        Checks.due(2, desk.refer(1, 3), "past one");
        Checks.due(3, desk.refer(2, 1), "back to one that does not lead to it any more");
        Checks.due("1 3 1 -1", references(desk), "the references");
        Checks.due(3, desk.refer(1, -1), "to none");
        Checks.due(-1, desk.refer(3, 0), "from the one that was the end");
        Checks.due("1 -1 1 0", references(desk), "the references then");
        Checks.due(1, desk.headword(3, 2), "its end then");
    }

    private static void endOfAHeadword() {
        Checks.sentence("References: The end of a headword is the headword at which one arrives by following "
                + "references as long as there are any; it is the headword itself if it does not refer to any.");
        Checks.due(0, Desks.headwords(1).headword(0, 2), "without references");
        DialectDictionary desk = Desks.chain(20);
        for (int headword = 0; headword < 20; headword++) {
            Checks.due(19, desk.headword(headword, 2), "the end of " + headword);
        }
        desk.refer(9, -1);
        Checks.due(9, desk.headword(0, 2), "the end of 0, as 9 does not refer any more");
        Checks.due(9, desk.headword(9, 2), "that of 9");
        Checks.due(19, desk.headword(10, 2), "that of 10");
    }

    private static void referencesToARemovedHeadword() {
        Checks.sentence("References: When a headword is removed, references to it are gone.");
        DialectDictionary desk = Desks.chain(4);
        Checks.due(2, desk.remove(2), "two references are gone");
        Checks.due("1 -1 -1", references(desk), "the references");
        Checks.due(1, desk.headword(0, 2), "the end of 0");
        Checks.due(1, desk.account(2), "one reference is left");
        Checks.due(-1, desk.refer(2, 0), "from the last to the first");
        desk.undo();
        desk.undo();
        Checks.due("1 2 3 -1", references(desk), "the references are back");
    }

    private static void headwordsOfSteps() {
        Checks.sentence("19: IndexOutOfBoundsException if there is no such headword");
        for (int headword : new int[] {-1, 4, 20, Integer.MIN_VALUE, Integer.MAX_VALUE}) {
            Twins.traceless(chain(4), BOUNDS, d -> d.steps(headword, 0), "from " + headword);
            Twins.traceless(chain(4), BOUNDS, d -> d.steps(0, headword), "to " + headword);
            Twins.traceless(chain(4), BOUNDS, d -> d.steps(headword, headword), "from and to " + headword);
        }
        Twins.traceless(chain(20), BOUNDS, d -> d.steps(0, 20), "to 20 of 20");
        Twins.traceless(chain(20), BOUNDS, d -> d.steps(20, 19), "from 20 of 20");
    }

    private static void numberOfSteps() {
        Checks.sentence("19: Returns the number, 0 if both are the same.");
        DialectDictionary desk = Desks.chain(20);
        for (int other = 0; other < 20; other++) {
            Checks.due(other, desk.steps(0, other), "from 0 to " + other);
            Checks.due(0, desk.steps(other, other), "from " + other + " to itself");
        }
        Checks.due(1, desk.steps(18, 19), "from the last but one to the last");
        Checks.due(0, Desks.headwords(1).steps(0, 0), "the only headword");
    }

    private static void oneDoesNotArrive() {
        Checks.sentence("19: NoSuchElementException if one does not arrive at the other one");
        Twins.traceless(chain(20), MISSING, d -> d.steps(19, 0), "from the last to the first");
        Twins.traceless(chain(20), MISSING, d -> d.steps(1, 0), "from the second to the first");
        Twins.traceless(chain(20), MISSING, d -> d.steps(19, 18), "from the last to the one ahead of it");
        Twins.traceless(() -> Desks.headwords(2), MISSING, d -> d.steps(0, 1), "without references");
        Twins.traceless(ReferencesEdgesTest::endInTheMiddle, MISSING, d -> d.steps(0, 2), "one beside the way");
        DialectDictionary desk = Desks.chain(3);
        desk.refer(1, -1);
        Checks.due(1, desk.steps(0, 1), "to the one that does not refer any more");
        Checks.refused(MISSING, () -> desk.steps(0, 2), "past it");
    }

    private static void headwordsToJoin() {
        Checks.sentence("12: IndexOutOfBoundsException if there is no such headword");
        for (int headword : new int[] {-1, 4, 20, Integer.MIN_VALUE, Integer.MAX_VALUE}) {
            Twins.traceless(chain(4), BOUNDS, d -> d.join(headword, 0), headword + " and 0");
            Twins.traceless(chain(4), BOUNDS, d -> d.join(0, headword), "0 and " + headword);
            Twins.traceless(chain(4), BOUNDS, d -> d.join(headword, headword), headword + " and itself");
        }
        Twins.traceless(chain(20), BOUNDS, d -> d.join(20, 20), "20 of 20 and itself");
        Checks.due(1, Desks.headwords(20).join(19, 0), "19 and 0");
        Checks.due(1, Desks.headwords(20).join(0, 19), "0 and 19");
    }

    private static void joinedToItself() {
        Checks.sentence("Refusals: 6, a headword is to be joined to itself: the headword");
        Twins.reporting(chain(1), d -> d.join(0, 0), "4:0 6:0", "the only headword");
        Twins.reporting(chain(20), d -> d.join(19, 19), "4:19 6:19", "the last of 20");
        Twins.reporting(chain(20), d -> d.join(3, 3), "4:3 6:3", "one of 20");
    }

    /** The headword a with so many variants, and the headword b with so many. */
    private static DialectDictionary withVariants(int ofFirst, int ofSecond) {
        DialectDictionary desk = Checks.with("a", "b");
        for (int variant = 0; variant < ofFirst; variant++) {
            Checks.addVariant(desk, 0, "a" + (char) ('a' + variant));
        }
        for (int variant = 0; variant < ofSecond; variant++) {
            Checks.addVariant(desk, 1, "b" + (char) ('a' + variant));
        }
        return Checks.fed(desk, "xy");
    }

    private static void fiveVariantsByJoining() {
        Checks.sentence("12: Returns the number of variants of the headword then.");
        for (int ofFirst = 0; ofFirst <= 4; ofFirst++) {
            DialectDictionary desk = withVariants(ofFirst, 4 - ofFirst);
            Checks.due(5, desk.join(0, 1), ofFirst + " and one more and " + (4 - ofFirst));
            Checks.due(1, desk.account(0), "the headwords");
            Checks.due(6, desk.account(1), "the forms");
            Checks.due("b", Checks.formOf(desk, 0, ofFirst), "the joined main form");
        }
        Checks.due(1, withVariants(0, 0).join(1, 0), "none and one more");
        Checks.due(4, withVariants(0, 3).join(1, 0), "three and one more");
        Checks.due(5, withVariants(0, 4).join(1, 0), "four and one more");
    }

    private static void moreThanFiveByJoining() {
        Checks.sentence("Refusals: 7, there would be more than 5 variants by joining: their number");
        for (int ofFirst = 0; ofFirst <= 5; ofFirst++) {
            int ofSecond = 5 - ofFirst;
            int first = ofFirst;
            Twins.reporting(() -> withVariants(first, ofSecond), d -> d.join(0, 1), "4:0 7:6", first + " of six");
            Twins.reporting(() -> withVariants(first, ofSecond), d -> d.join(1, 0), "4:1 7:6", "the other way");
        }
        Twins.reporting(() -> withVariants(5, 5), d -> d.join(0, 1), "4:0 7:11", "eleven");
        Twins.reporting(() -> withVariants(5, 5), d -> d.join(1, 0), "4:1 7:11", "eleven, the other way");
        DialectDictionary desk = withVariants(5, 0);
        desk.removeVariant(0, 0);
        Checks.due(5, desk.join(0, 1), "one fewer");
    }

    private static void circleByJoining() {
        Checks.sentence("12: 5 means that a circle would be closed by the changed references; Details: If "
                + "joining is refused for the reason 5, the detail is the end of the headword to which the other one "
                + "is to be joined");
        Twins.reporting(chain(3), d -> d.join(0, 2), "4:0 5:2", "over one");
        Twins.reporting(chain(4), d -> d.join(0, 2), "4:0 5:3", "over one, with another end");
        Twins.reporting(chain(4), d -> d.join(0, 3), "4:0 5:3", "over two");
        Twins.reporting(chain(4), d -> d.join(1, 3), "4:1 5:3", "over one, to which another one leads");
        Twins.reporting(chain(20), d -> d.join(0, 19), "4:0 5:19", "over 18");
        Twins.reporting(ReferencesEdgesTest::endInTheMiddle, d -> d.join(0, 1), "4:0 5:1", "another end");
    }

    private static void noCircleByJoining() {
        Checks.sentence("12: references to it become references to the other one, or none at the other one itself");
        DialectDictionary direct = Desks.chain(4);
        Checks.due(1, direct.join(1, 2), "the one to which it refers");
        Checks.due("1 -1 -1", references(direct), "the reference is none");
        DialectDictionary back = Desks.chain(4);
        Checks.due(1, back.join(3, 0), "the one from which three references lead");
        Checks.due("1 2 -1", references(back), "the references stay");
        DialectDictionary all = Desks.chain(20);
        Checks.due(1, all.join(19, 0), "the one from which 19 references lead");
        Checks.due(18, all.headword(0, 2), "the end of the others");
        Checks.due(18, all.account(2), "18 references");
    }

    private static void firstReasonOfJoining() {
        Checks.sentence("12: refused for the reason 6, 7 or 5, in this order");
        Twins.reporting(() -> withVariants(5, 0), d -> d.join(0, 0), "4:0 6:0", "6 and 7");
        Twins.reporting(() -> withVariants(3, 0), d -> d.join(0, 0), "4:0 6:0", "6 and 7, with three variants");
        Twins.reporting(ReferencesEdgesTest::fullChain, d -> d.join(0, 2), "4:0 7:6", "7 and 5");
        Twins.reporting(ReferencesEdgesTest::fullChain, d -> d.join(2, 0), "4:2 7:6", "7, the other way");
    }

    /** a > b > c, and a has five variants. */
    private static DialectDictionary fullChain() {
        DialectDictionary desk = Desks.chain(3);
        Checks.perform(desk, "0~aa;0~ab;0~ac;0~ad;0~ae");
        return desk;
    }

    private static void formsOfAJoinedHeadword() {
        Checks.sentence("12: its main form and then its variants become the last variants of the other one");
        DialectDictionary desk = withVariants(2, 2);
        Checks.due(5, desk.join(0, 1), "join");
        String[] want = {"a", "aa", "ab", "b", "ba", "bb"};
        for (int form = -1; form < 5; form++) {
            Checks.due(want[form + 1], Checks.formOf(desk, 0, form), "form " + form);
        }
        Checks.due("xy", nextForm(desk), "the text in the buffer");
    }

    /** The form that the text in the buffer becomes. */
    private static String nextForm(DialectDictionary desk) {
        return Checks.formOf(desk, desk.add(), -1);
    }

    private static void referencesToAJoinedHeadword() {
        Checks.sentence("12: references to it become references to the other one");
        DialectDictionary star = Desks.headwords(20);
        for (int headword = 1; headword < 19; headword++) {
            star.refer(headword, 19);
        }
        Checks.due(1, star.join(0, 19), "the one to which 18 refer");
        Checks.due(18, star.headword(0, 3), "18 refer to the other one");
        Checks.due(18, star.account(2), "no reference is gone");
        DialectDictionary chain = Desks.chain(4);
        Checks.due(1, chain.join(3, 1), "one from which two references lead to the other one");
        Checks.due("2 2 -1", references(chain), "the references of a, c and d");
        DialectDictionary one = Desks.headwords(3);
        one.refer(2, 0);
        Checks.due(1, one.join(1, 0), "join");
        Checks.due("-1 0", references(one), "the reference with its new number");
    }

    private static void ownReferenceIsGone() {
        Checks.sentence("12: its own reference is gone, and then it is removed");
        DialectDictionary desk = Desks.chain(4);
        Checks.due(1, desk.join(0, 1), "join");
        Checks.due("-1 2 -1", references(desk), "it is not that of the other one");
        Checks.due(3, desk.account(0), "the headwords");
        Checks.due(1, desk.account(2), "the references");
        DialectDictionary kept = Desks.chain(4);
        Checks.due(1, kept.join(2, 0), "join to one that refers");
        Checks.due("1 2 -1", references(kept), "the other one's own reference stays");
    }

    private static void numbersBehindJoining() {
        Checks.sentence("Headwords: all numbers of later headwords decrease by 1");
        DialectDictionary earlier = Desks.headwords(4);
        earlier.refer(1, 3);
        Checks.due(1, earlier.join(3, 0), "the first to the last");
        Checks.due("a", Checks.formOf(earlier, 2, 0), "the last has the number 2");
        Checks.due("2 -1 -1", references(earlier), "and is referred to by it");
        DialectDictionary later = Desks.headwords(4);
        later.refer(2, 1);
        Checks.due(1, later.join(0, 3), "the last to the first");
        Checks.due("d", Checks.formOf(later, 0, 0), "the first has the number 0");
        Checks.due("-1 -1 1", references(later), "the other numbers stay");
        Checks.refused(BOUNDS, () -> later.headword(3, 0), "there is no number 3");
    }

    private static void bufferStays() {
        Checks.sentence("Terms: A method that throws an exception leaves the state unchanged");
        DialectDictionary desk = chain(4).make();
        Checks.refused(UnsupportedOperationException.class, () -> desk.join(0, 2), "a refused joining");
        Checks.refused(UnsupportedOperationException.class, () -> desk.refer(2, 0), "a refused reference");
        desk.refer(0, 2);
        desk.join(0, 1);
        Checks.due("xy", nextForm(desk), "the text in the buffer");
    }
}
