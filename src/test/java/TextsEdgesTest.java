/** Promise 31 and texts of commands at their limits: a test for each sentence of the document that names one. */
public final class TextsEdgesTest {
    private static final Class<?> REFUSED = UnsupportedOperationException.class;

    /** Where one stands in a text, and so what can continue it. */
    private enum At {
        COMMAND, FORM_BEGINS, NUMBER_BEGINS, NUMBER_GOES_ON, SIGN, FORM_GOES_ON, LAST_DIGIT, END_OF_COMMAND;

        boolean mayEnd() {
            return this == FORM_GOES_ON || this == LAST_DIGIT || this == END_OF_COMMAND;
        }

        /** The next place, or null if the sign cannot continue the text. */
        At behind(char sign) {
            boolean isDigit = sign >= '0' && sign <= '9';
            boolean isPlain = sign >= 'a' && sign <= 'z';
            switch (this) {
                case COMMAND:
                    return sign == '+' ? FORM_BEGINS : isDigit ? NUMBER_GOES_ON : null;
                case NUMBER_GOES_ON:
                    return isDigit ? SIGN : behindNumber(sign);
                case SIGN:
                    return behindNumber(sign);
                case NUMBER_BEGINS:
                    return isDigit ? LAST_DIGIT : null;
                case LAST_DIGIT:
                    return isDigit ? END_OF_COMMAND : sign == ';' ? COMMAND : null;
                case END_OF_COMMAND:
                    return sign == ';' ? COMMAND : null;
                case FORM_BEGINS:
                    return isPlain ? FORM_GOES_ON : null;
                default:
                    return isPlain ? FORM_GOES_ON : sign == ';' ? COMMAND : null;
            }
        }

        private static At behindNumber(char sign) {
            return sign == '~' ? FORM_BEGINS : sign == '>' || sign == '&' ? NUMBER_BEGINS : null;
        }
    }

    public static void main(String[] args) {
        allShortTexts();
        everyPrefixOfALongText();
        everyStrangeCharacter();
        fullBuffer();
        commandsOfAText();
        formsOfAText();
        numbersOfAText();
        endsTooEarly();
        emptyAfterwards();
        syntaxErrorLeavesNoTrace();
        numbersThatAreNoHeadwords();
        asTheHeadwordsAreThen();
        allOfThemOrNone();
        refusedForAllReasons();
        limitsWithinAText();
        Checks.end("TextsEdgesTest");
    }

    /** The error position, or -1 without an error. */
    private static int errorPosition(String text) {
        At at = At.COMMAND;
        for (int position = 0; position < text.length(); position++) {
            at = at.behind(text.charAt(position));
            if (at == null) {
                return position;
            }
        }
        return at.mayEnd() ? -1 : text.length();
    }

    /** In a dictionary without headwords. A text without an error is carried out or refused, by what it says. */
    private static void parsed(String text) {
        DialectDictionary desk = Checks.fed(new DialectDictionary(), text);
        int position = errorPosition(text);
        Object answer = Checks.outcome(desk::perform);
        Object commands = 1 + (int) text.chars().filter(sign -> sign == ';').count();
        boolean isRefused = answer.equals(REFUSED.getSimpleName());
        Checks.due(position >= 0 ? -100 - position : isRefused ? answer : commands, answer, "perform \"" + text + "\"");
        Checks.due(0, desk.account(8), "the buffer behind \"" + text + "\"");
        if (position >= 0 || isRefused) {
            Checks.due(0, desk.account(0), "the headwords behind \"" + text + "\"");
            Checks.refused(IllegalStateException.class, desk::undo, "undo behind \"" + text + "\"");
        }
    }

    private static void allShortTexts() {
        Checks.sentence("Texts: the offset, from 0, of the first character that cannot continue such a text, or "
                + "the length of the text if it ends too early");
        shortTexts("", 5);
    }

    private static void shortTexts(String start, int more) {
        parsed(start);
        for (int sign = 0; more > 0 && sign < 8; sign++) {
            shortTexts(start + "+~>&;a0 ".charAt(sign), more - 1);
        }
    }

    private static final String LONG = "+ab;0~cd;00~e;1>0;10>2;3>40;50>60;7&8;90&1;23&4;56&78;+xyz";

    private static void everyPrefixOfALongText() {
        Checks.sentence("Texts: text = command { \";\" command }");
        for (int length = 0; length <= LONG.length(); length++) {
            parsed(LONG.substring(0, length));
        }
        for (int at = 0; at < LONG.length(); at++) {
            for (char sign : "+~>&;a0 ".toCharArray()) {
                parsed(LONG.substring(0, at) + sign + LONG.substring(at + 1));
            }
        }
    }

    private static void everyStrangeCharacter() {
        Checks.sentence("Texts: and a character is one from a to z; number = digit [ digit ]");
        char[] strange = {0, '\n', ' ', '!', '%', '\'', ',', '-', '.', '/', ':', '<', '=', '?', '@', 'A', 'Z', '[', '`',
            '{', '|', '}', 127, 0xb2, 0xe1, 0xff, 0x161, 0x660, 0xff10, 0xff41, 0xffff};
        for (char sign : strange) {
            for (String start : new String[] {"", "+", "+a", "+a;", "0", "00", "0~", "0~a", "0>", "0>0", "0>00"}) {
                parsed(start + sign);
                parsed(start + sign + "a");
            }
        }
        for (String edge : new String[] {"+a", "+z", "0>9", "9>0", "00>99", "99&00", "9~z"}) {
            parsed(edge);
        }
    }

    private static void fullBuffer() {
        Checks.sentence("31: Parses the input buffer as a text of commands");
        parsed("+" + "x".repeat(59));
        parsed("+" + "x".repeat(58) + ";");
        parsed("+" + "x".repeat(58) + "1");
        parsed("+" + "x".repeat(57) + ";+");
        parsed("0>1;".repeat(15));
        parsed("0>1;".repeat(14) + "0>12");
        parsed("0".repeat(60));
        parsed(";".repeat(60));
        parsed(" ".repeat(60));
        DialectDictionary desk = Checks.fed(new DialectDictionary(), Desks.TWENTY + "t");
        Checks.due(60, desk.account(8), "a full buffer");
        Checks.due(20, desk.perform(), "20 commands, the most that can be carried out");
        Checks.due(20, desk.account(0), "20 headwords");
        Checks.due(0, desk.undo(), "which are one change");
        Checks.due(0, desk.account(0), "that is taken back as one");
    }

    private static void commandsOfAText() {
        Checks.sentence("31: Returns the number of commands");
        Checks.due(1, Checks.perform(Desks.headwords(2), "+x"), "make one headword");
        Checks.due(1, Checks.perform(Desks.headwords(2), "0~x"), "add one variant");
        Checks.due(1, Checks.perform(Desks.headwords(2), "0>1"), "one reference");
        Checks.due(1, Checks.perform(Desks.headwords(2), "0&1"), "one joining");
        DialectDictionary desk = Desks.headwords(3);
        Checks.due(4, Checks.perform(desk, "+x;0~y;1>2;2&0"), "four commands");
        Checks.due(3, desk.account(0), "one made and one joined");
        Checks.due("c a y", Checks.formOf(desk, 1, -1) + " " + Checks.formOf(desk, 1, 0) + " "
                + Checks.formOf(desk, 1, 1), "the first one of & stays, the second one is joined to it");
        Checks.due(1, desk.headword(0, 1), "the first one of > refers to the second one");
        DialectDictionary again = Desks.headwords(2);
        Checks.due(3, Checks.perform(again, "0>1;0>1;0>1"), "a reference three times");
        Checks.due(1, again.account(2), "it is one");
    }

    private static void formsOfAText() {
        Checks.sentence("Texts: form = character { character }");
        Checks.due(1, Checks.perform(new DialectDictionary(), "+abcdefgh"), "eight letters");
        Twins.refusesText(() -> Desks.headwords(1), "+abcdefghi", DialectDictionary::perform, "9:0 1:-1 1:9", "nine");
        Twins.refusesText(() -> Desks.headwords(1), "0~abcdefghi", DialectDictionary::perform, "9:0 2:0 1:9", "nine");
        Twins.refusesText(() -> Desks.headwords(1), "+" + "x".repeat(59), DialectDictionary::perform, "9:0 1:-1 1:59",
                "59 letters");
        DialectDictionary desk = Desks.letters(1);
        Checks.due(2, Checks.perform(desk, "+qaqaqaqaqaqaqaqa;0~q"), "eight letters of two characters");
        Checks.due(8, desk.headword(0, 6), "their number");
        Checks.due("q", Checks.formOf(desk, 0, 0), "the form at the end");
        DialectDictionary ends = Desks.letters(1);
        Checks.due(2, Checks.perform(ends, "+q;+a"), "a form ends with its command");
        Checks.due("q a", Checks.formOf(ends, 0, -1) + " " + Checks.formOf(ends, 1, -1), "both forms");
    }

    private static void numbersOfAText() {
        Checks.sentence("Texts: number = digit [ digit ]");
        DialectDictionary desk = Desks.headwords(20);
        Checks.due(2, Checks.perform(desk, "19>18;0>1"), "the last and the first headword");
        Checks.due(18, desk.headword(19, 1), "the reference of 19");
        Checks.due(2, Checks.perform(desk, "09>08;00>02"), "digits ahead that are 0");
        Checks.due(8, desk.headword(9, 1), "the reference of 9");
        Checks.due(2, desk.headword(0, 1), "the reference of 0");
        Checks.due(1, Checks.perform(desk, "10&01"), "10 is not 1");
        Checks.due("b", Checks.formOf(desk, 9, 0), "1 was joined to it");
        parsed("100~a");
        parsed("1>100");
    }

    private static void endsTooEarly() {
        Checks.sentence("Texts: or the length of the text if it ends too early");
        String[] texts = {"", "+", "0", "00", "0~", "00~", "0>", "0&", "+a;", "+a;+", "+a;0", "+a;00", "+a;0>"};
        for (String text : texts) {
            Checks.due(-100 - text.length(), Checks.perform(Desks.headwords(1), text), "perform \"" + text + "\"");
        }
        Checks.due(-160, Checks.perform(Desks.headwords(1), "+" + "x".repeat(58) + ";"), "60 characters");
        Checks.due(-100, Checks.perform(Desks.headwords(1), ";"), "the first of one cannot begin a text");
        Checks.due(-159, Checks.perform(Desks.headwords(1), "+" + "x".repeat(58) + "+"), "the last of 60 cannot go on");
    }

    private static void emptyAfterwards() {
        Checks.sentence("31: The buffer is empty afterwards, also after an error or an exception.");
        DialectDictionary desk = Desks.headwords(2);
        for (String text : new String[] {"+x", "+x;", "+x", "9>0", "0>0", "", "+" + "x".repeat(59)}) {
            Checks.fed(desk, text);
            Checks.due(text.length(), desk.account(8), "the characters ahead of \"" + text + "\"");
            Checks.outcome(desk::perform);
            Checks.due(0, desk.account(8), "the buffer behind \"" + text + "\"");
        }
    }

    private static void syntaxErrorLeavesNoTrace() {
        Checks.sentence("Terms: A method that returns an error code leaves the state unchanged");
        for (String text : new String[] {"", "+x;", "+x;0~y;0>1;1&0;+", "0>0;", "9~x;", "+x;+x;+x "}) {
            DialectDictionary desk = Desks.headwords(2);
            Checks.outcome(() -> desk.join(0, 0));
            int position = errorPosition(text);
            Checks.due(-100 - position, Checks.perform(desk, text), "perform \"" + text + "\"");
            Checks.due("4:0 6:0", Checks.reportOf(desk), "the report behind \"" + text + "\"");
            Checks.due(Checks.stateOf(Desks.headwords(2)), Checks.stateOf(desk), "what stands behind \"" + text + "\"");
            Checks.due(1, desk.undo(), "the changes behind \"" + text + "\"");
        }
    }

    private static void numbersThatAreNoHeadwords() {
        Checks.sentence("31: A number that is no headword is a refusal without a report.");
        for (String text : new String[] {"2~x", "2>0", "0>2", "2&0", "0&2", "99~x", "2>2", "2&2", "99&99", "2~a",
            "2~abcdefghi", "+x;3~y", "+x;+y;0>4", "0~x;1~y;20~z"}) {
            noHeadword(text, () -> Desks.headwords(2));
        }
        noHeadword("0~a", DialectDictionary::new);
        noHeadword("0>0", DialectDictionary::new);
        noHeadword("20~x", Desks::twentyHeadwords);
        noHeadword("0>20", Desks::twentyHeadwords);
        noHeadword("20&20", Desks::twentyHeadwords);
    }

    private static void noHeadword(String text, Twins.Maker maker) {
        Twins.traceless(maker, REFUSED, d -> Checks.perform(d, text), "perform \"" + text + "\"");
        Twins.traceless(() -> reported(maker), REFUSED, d -> Checks.perform(d, text), "with an earlier report " + text);
    }

    private static DialectDictionary reported(Twins.Maker maker) {
        DialectDictionary desk = maker.make();
        Checks.outcome(desk::add);
        return desk;
    }

    private static void asTheHeadwordsAreThen() {
        Checks.sentence("31: as the headwords are then");
        DialectDictionary made = Desks.headwords(2);
        Checks.due(3, Checks.perform(made, "+x;2~y;2>0"), "a headword that was made ahead");
        Checks.due("y", Checks.formOf(made, 2, 0), "its variant");
        DialectDictionary joined = Desks.headwords(3);
        Checks.due(2, Checks.perform(joined, "0&1;1~y"), "a number that decreased");
        Checks.due("y", Checks.formOf(joined, 1, 0), "the variant of c");
        noHeadword("0&1;2~y", () -> Desks.headwords(3));
        noHeadword("2~y;+x", () -> Desks.headwords(2));
        DialectDictionary first = new DialectDictionary();
        Checks.due(2, Checks.perform(first, "+a;0~b"), "the first headword");
        DialectDictionary most = Desks.nineteenHeadwords();
        Checks.due(2, Checks.perform(most, "+x;19>0"), "the 20th headword");
    }

    private static void allOfThemOrNone() {
        Checks.sentence("31: carries them out in their order, all of them or none");
        for (String text : new String[] {"+x;0~y;1>0;+x", "0&1;+b;+x;+x", "1>0;1~z;0>1", "+x;+y;+z;0&1;0&0"}) {
            DialectDictionary desk = Desks.headwords(2);
            Checks.refused(REFUSED, () -> Checks.perform(desk, text), "perform \"" + text + "\"");
            Checks.due(Checks.stateOf(Desks.headwords(2)), Checks.stateOf(desk), "what stands behind \"" + text + "\"");
            Checks.due(1, desk.undo(), "the changes behind \"" + text + "\"");
            Checks.due(1, desk.account(0), "the one behind undo");
        }
        DialectDictionary all = Desks.headwords(2);
        Checks.due(4, Checks.perform(all, "0&1;+c;0~x;1>0"), "all of them");
        Checks.due(2, all.undo(), "as one change");
        Checks.due(Checks.stateOf(Desks.headwords(2)), Checks.stateOf(all), "taken back");
    }

    private static void refusedForAllReasons() {
        Checks.sentence("31: UnsupportedOperationException if the text is correct, and a command is refused");
        commandRefused(() -> Desks.headwords(2), "+x;+xxxxxxxxx", "9:1 1:-1 1:9");
        commandRefused(() -> Desks.headwords(2), "+b", "9:0 1:-1 2:1");
        commandRefused(() -> Desks.headwords(2), "1~a", "9:0 2:1 2:0");
        commandRefused(() -> Desks.headwords(2), "+x;2~y;+y", "9:2 1:-1 2:2");
        commandRefused(Desks::nineteenHeadwords, "+x;+y", "9:1 1:-1 3:20");
        commandRefused(Desks::nineteenHeadwords, "+x;0~y", "9:1 2:0 3:20");
        commandRefused(Desks::fiftyNineForms, "9~x;+y", "9:1 1:-1 3:60");
        commandRefused(Desks::fiftyNineForms, "+x;10~y", "9:1 2:10 3:60");
        commandRefused(Desks::fiveVariants, "0~z;1~f", "9:1 2:1 4:1");
        commandRefused(() -> Desks.chain(4), "3>0", "9:0 3:3 5:3");
        commandRefused(() -> Desks.chain(4), "2>2", "9:0 3:2 5:3");
        commandRefused(() -> Desks.chain(4), "0&2", "9:0 4:0 5:3");
        commandRefused(() -> Desks.chain(4), "+x;3&3", "9:1 4:3 6:3");
        commandRefused(Desks::fiveVariants, "1&0", "9:0 4:1 7:6");
        commandRefused(Desks::fiveVariants, "0&1", "9:0 4:0 7:6");
    }

    private static void commandRefused(Twins.Maker maker, String text, String report) {
        Twins.refusesText(maker, text, DialectDictionary::perform, report, "perform");
    }

    private static void limitsWithinAText() {
        Checks.sentence("31: carries them out in their order");
        DialectDictionary five = Desks.headwords(1);
        Checks.due(5, Checks.perform(five, "0~b;0~c;0~d;0~e;0~f"), "five variants");
        DialectDictionary room = Desks.twentyHeadwords();
        Checks.due(3, Checks.perform(room, "0&1;+x;0>18"), "a joining makes room for a headword");
        Checks.due(20, room.account(0), "20 headwords");
        DialectDictionary free = Desks.chain(2);
        Checks.due(3, Checks.perform(free, "+c;0>2;1>0"), "no circle any more");
        Checks.due(2, free.headword(1, 2), "the end then");
    }
}
