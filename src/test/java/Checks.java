/** What the tests share: texts fed sign by sign, answers compared, exceptions by their very class. */
final class Checks {
    interface Call {
        Object run();
    }

    private static int wrong = 0;
    private static int made = 0;

    private Checks() {
    }

    static void due(Object want, Object got, String call) {
        made++;
        if (!want.equals(got)) {
            wrong++;
            System.out.println(call + " answered " + got + ", due is " + want);
        }
    }

    static void refused(Class<?> want, Call call, String name) {
        due(want.getSimpleName(), outcome(call), name);
    }

    /** The answer of a call, or the name of the class of its exception. */
    static Object outcome(Call call) {
        try {
            return call.run();
        } catch (RuntimeException e) {
            return e.getClass().getSimpleName();
        }
    }

    static DialectDictionary fed(DialectDictionary desk, String text) {
        for (char sign : text.toCharArray()) {
            desk.feed(sign);
        }
        return desk;
    }

    static int add(DialectDictionary desk, String text) {
        return fed(desk, text).add();
    }

    static int addVariant(DialectDictionary desk, int headword, String text) {
        return fed(desk, text).addVariant(headword);
    }

    static int perform(DialectDictionary desk, String text) {
        return fed(desk, text).perform();
    }

    /** A new object with these main forms. */
    static DialectDictionary with(String... forms) {
        DialectDictionary desk = new DialectDictionary();
        for (String form : forms) {
            add(desk, form);
        }
        return desk;
    }

    /** The report as one text, a level behind the other. */
    static String reportOf(DialectDictionary desk) {
        StringBuilder text = new StringBuilder();
        for (int level = 0; level < 4; level++) {
            int at = level;
            Object number = outcome(() -> desk.report(at, false));
            if (number instanceof Integer) {
                text.append(number).append(':').append(desk.report(level, true)).append(' ');
            }
        }
        return text.toString().trim();
    }

    static String alphabetOf(DialectDictionary desk) {
        StringBuilder text = new StringBuilder();
        for (int place = 0; place < desk.account(4); place++) {
            text.append(desk.letter(place, false));
            if (desk.letter(place, true) != ' ') {
                text.append(desk.letter(place, true));
            }
            text.append(' ');
        }
        return text.toString().trim();
    }

    /** A form as its letters, those of two characters in brackets. */
    static String formOf(DialectDictionary desk, int headword, int form) {
        StringBuilder text = new StringBuilder();
        for (int index = 0; index < 9; index++) {
            int at = index;
            Object place = outcome(() -> desk.letterOf(headword, form, at));
            if (place instanceof Integer) {
                text.append(signsAt(desk, (Integer) place));
            }
        }
        return text.toString();
    }

    /** The row of a derivation, the forms set apart by blanks. */
    static String rowOf(DialectDictionary desk, int headword, int form) {
        StringBuilder text = new StringBuilder();
        for (int index = 0; index < desk.derived(headword, form, -1, 0); index++) {
            for (int letter = 0; letter < desk.derived(headword, form, index, -1); letter++) {
                text.append(signsAt(desk, desk.derived(headword, form, index, letter)));
            }
            text.append(' ');
        }
        return text.toString().trim();
    }

    private static String signsAt(DialectDictionary desk, int place) {
        char second = desk.letter(place, true);
        String first = String.valueOf(desk.letter(place, false));
        return second == ' ' ? first : "(" + first + second + ")";
    }

    /** All that stands in the dictionary, as one text. */
    static String stateOf(DialectDictionary desk) {
        StringBuilder text = new StringBuilder(alphabetOf(desk));
        for (int headword = 0; headword < desk.account(0); headword++) {
            text.append('\n');
            for (int form = -1; form < desk.headword(headword, 0); form++) {
                text.append(formOf(desk, headword, form)).append(' ');
            }
            text.append("> ").append(desk.headword(headword, 1));
        }
        for (int rule = 0; rule < desk.account(3); rule++) {
            text.append('\n');
            for (int what = 0; what < 4; what++) {
                text.append(desk.rule(rule, what)).append(' ');
            }
        }
        return text.toString();
    }

    static void end(String test) {
        System.out.println(test + ": " + made + " checks, " + wrong + " wrong");
        if (wrong != 0 || made == 0) {
            System.exit(1);
        }
    }
}
