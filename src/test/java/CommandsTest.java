/** Promise 31: texts of commands. */
public final class CommandsTest {
    private static final Class<?> REFUSED = UnsupportedOperationException.class;

    public static void main(String[] args) {
        perform();
        errorPositions();
        refusals();
        numbersWithoutHeadwords();
        allOrNone();
        mostCommands();
        formsOfLetters();
        Checks.end("CommandsTest");
    }

    private static void perform() {
        DialectDictionary desk = new DialectDictionary();
        Checks.due(1, Checks.perform(desk, "+ab"), "31: one command");
        Checks.due(5, Checks.perform(desk, "+cd;+ef;1~gh;0>1;02&00"), "31: five commands");
        Checks.due(0, desk.account(8), "31: the buffer is empty");
        Checks.due("cd", Checks.formOf(desk, 0, -1), "31: 0 was joined to 2, so 1 is 0");
        Checks.due("gh", Checks.formOf(desk, 0, 0), "31: with its variant");
        Checks.due("ab", Checks.formOf(desk, 1, 0), "31: the joined form");
        Checks.due(0, desk.account(2), "31: the reference of the joined one is gone");
        Checks.due(1, Checks.perform(desk, "00>01"), "31: numbers of two digits");
        Checks.due(1, desk.headword(0, 1), "31: mean the same");
    }

    private static void errorPositions() {
        error(0, "");
        error(0, ";");
        error(0, "a");
        error(0, " +a");
        error(0, "~a");
        error(1, "+");
        error(1, "+;");
        error(1, "+A");
        error(2, "+a1");
        error(2, "+a+b");
        error(3, "+a;");
        error(3, "+a;;");
        error(1, "0");
        error(1, "0;");
        error(2, "00");
        error(2, "123~a");
        error(2, "0~");
        error(2, "0~1");
        error(3, "0~a~");
        error(2, "0>");
        error(2, "0>a");
        error(3, "0>1>2");
        error(4, "0>123");
        error(3, "0>1a");
        error(2, "0&");
        error(2, "0&;");
        error(1, "0=1");
        error(1, "0+a");
        error(1, "0/");
        error(0, ":0");
        error(0, "\u0000");
        error(2, "+a ");
        error(2, "+a\u0000");
        error(59, "+" + "a".repeat(58) + "+");
        error(60, "+a;+b;+c;+d;+e;+f;+g;+h;+i;+j;+k;+l;+m;+n;+o;+p;+q;+r;+s;+t;");
        error(4, "+a;0");
    }

    private static void error(int position, String text) {
        DialectDictionary desk = Checks.with("ab", "cd");
        String before = Checks.stateOf(desk);
        Checks.due(-100 - position, Checks.perform(desk, text), "31: perform " + text);
        Checks.due(0, desk.account(8), "31: the buffer is empty after " + text);
        Checks.due(before, Checks.stateOf(desk), "31: the state stays after " + text);
        Checks.due("", Checks.reportOf(desk), "31: no report after " + text);
        Checks.due(1, desk.undo(), "31: no change to take back by " + text);
    }

    private static void refusals() {
        refusal("+x;+abcdefghi", "9:1 1:-1 1:9");
        refusal("+ab", "9:0 1:-1 2:0");
        refusal("+x;+x", "9:1 1:-1 2:3");
        refusal("1~x;1~cd", "9:1 2:1 2:1");
        refusal("1~aaaaaaaaaa", "9:0 2:1 1:10");
        refusal("1~g;1~h;1~i;1~j;1~k;1~l", "9:5 2:1 4:1");
        refusal("0>1;1>2;2>0", "9:2 3:2 5:2");
        refusal("0>0", "9:0 3:0 5:0");
        refusal("1&1", "9:0 4:1 6:1");
        refusal("0~g;0~h;0~i;1~j;1~k;0&1", "9:5 4:0 7:6");
        refusal("0>1;1>2;0&2", "9:2 4:0 5:2");
        refusal("1&0;+x;+cd", "9:2 1:-1 2:0");
    }

    private static void refusal(String text, String report) {
        DialectDictionary desk = Checks.with("ab", "cd", "ef");
        String before = Checks.stateOf(desk);
        Checks.refused(REFUSED, () -> Checks.perform(desk, text), "31: perform " + text);
        Checks.due(report, Checks.reportOf(desk), "31: the report of " + text);
        Checks.due(before, Checks.stateOf(desk), "31: nothing is carried out of " + text);
        Checks.due(0, desk.account(8), "31: the buffer is empty after " + text);
        Checks.due(2, desk.undo(), "31: no change to take back by " + text);
    }

    private static void numbersWithoutHeadwords() {
        for (String text : new String[] {"3~x", "3>0", "0>3", "3&0", "0&3", "+x;4~y", "2&0;2~x", "99>99", "3~ab",
                "3~aaaaaaaaa", "3&3"}) {
            DialectDictionary desk = Checks.with("ab", "cd", "ef");
            String before = Checks.stateOf(desk);
            Checks.refused(REFUSED, () -> Checks.perform(desk, text), "31: perform " + text);
            Checks.due("", Checks.reportOf(desk), "31: no report of " + text);
            Checks.due(before, Checks.stateOf(desk), "31: nothing is carried out of " + text);
            Checks.due(0, desk.account(8), "31: the buffer is empty after " + text);
        }
        DialectDictionary desk = Checks.with("ab", "cd", "ef");
        Checks.due(2, Checks.perform(desk, "+x;3~y"), "31: a headword of the same text");
    }

    private static void allOrNone() {
        DialectDictionary desk = Checks.with("ab", "cd", "ef");
        Checks.perform(desk, "0>1;2~x");
        String before = Checks.stateOf(desk);
        Checks.refused(REFUSED, () -> Checks.perform(desk, "1&0;+y;1~z;2>0;0>2"), "31: the last is refused");
        Checks.due(before, Checks.stateOf(desk), "31: none is carried out");
        Checks.due(4, Checks.perform(desk, "1&0;+y;1~z;2>0"), "31: all are carried out");
        Checks.due(4, desk.undo(), "32: as one change");
        Checks.due(before, Checks.stateOf(desk), "32: all are taken back");
    }

    private static void mostCommands() {
        DialectDictionary desk = new DialectDictionary();
        String text = "+a;+b;+c;+d;+e;+f;+g;+h;+i;+j;+k;+l;+m;+n;+o;+p;+q;+r;+s;+tt";
        Checks.due(60, text.length(), "31: a full buffer");
        Checks.due(20, Checks.perform(desk, text), "31: 20 commands");
        Checks.refused(REFUSED, () -> Checks.perform(desk, "0>1;+u"), "31: the 21st headword");
        Checks.due("9:1 1:-1 3:20", Checks.reportOf(desk), "31: its report");
    }

    private static void formsOfLetters() {
        DialectDictionary desk = new DialectDictionary();
        desk.addLetter('c', 'h', 0);
        Checks.due(2, Checks.perform(desk, "+chchchchchchchch;0~c"), "31: texts are divided into letters");
        Checks.due(8, desk.headword(0, 6), "31: eight of them");
        Checks.due("c", Checks.formOf(desk, 0, 0), "31: a form ends with its command");
    }
}
