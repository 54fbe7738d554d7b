/** What the tests share: texts fed sign by sign, answers compared, exceptions by their very class. */
final class Checks {
    interface Call {
        Object run();
    }

    private static int wrong = 0;
    private static int made = 0;
    private static String sentence = "";

    private Checks() {
    }

    /** The sentence of the document that the checks behind this are about; a wrong answer is told with it. */
    static void sentence(String words) {
        sentence = words;
    }

    static void due(Object want, Object got, String call) {
        made++;
        if (!want.equals(got)) {
            wrong++;
            System.out.println(call + " answered " + got + ", due is " + want
                    + (sentence.isEmpty() ? "" : " [" + sentence + "]"));
        }
    }

    static void refused(Class<?> want, Call call, String name) {
        due(want.getSimpleName(), outcome(call), name);
    }

    /** The answer of a call, or the name of the class of its exception. */
    static Object outcome(Call call) {
        try {
            return call.run();
        } catch (RuntimeException e) {
            return e.getClass().getSimpleName();
        }
    }

    static DialectDictionary fed(DialectDictionary desk, String text) {
        for (char sign : text.toCharArray()) {
            desk.feed(sign);
        }
        return desk;
    }

    static int add(DialectDictionary desk, String text) {
        return fed(desk, text).add();
    }

    static int addVariant(DialectDictionary desk, int headword, String text) {
        return fed(desk, text).addVariant(headword);
    }

    static int rename(DialectDictionary desk, int headword, String text) {
        return fed(desk, text).rename(headword);
    }

    static int find(DialectDictionary desk, String text) {
        return fed(desk, text).find();
    }

    static int perform(DialectDictionary desk, String text) {
        return fed(desk, text).perform();
    }

    /** A new object with these main forms. */
    static DialectDictionary with(String... forms) {
        DialectDictionary desk = new DialectDictionary();
        for (String form : forms) {
            add(desk, form);
        }
        return desk;
    }

    /** The report as one text, a level behind the other. */
    static String reportOf(DialectDictionary desk) {
        StringBuilder text = new StringBuilder();
        for (int level = 0; level < 4; level++) {
            int at = level;
            Object number = outcome(() -> desk.report(at, false));
            if (number instanceof Integer) {
                text.append(number).append(':').append(desk.report(level, true)).append(' ');
            }
        }
        return text.toString().trim();
    }

    static String alphabetOf(DialectDictionary desk) {
        return String.join(" ", lettersOf(desk));
    }

    private static String[] lettersOf(DialectDictionary desk) {
        String[] letters = new String[desk.account(4)];
        for (int place = 0; place < letters.length; place++) {
            letters[place] = signsAt(desk, place);
        }
        return letters;
    }

    private static String signsAt(DialectDictionary desk, int place) {
        char second = desk.letter(place, true);
        String first = String.valueOf(desk.letter(place, false));
        return second == ' ' ? first : first + second;
    }

    /** A form as its letters, those of two characters in brackets. */
    static String formOf(DialectDictionary desk, int headword, int form) {
        StringBuilder text = new StringBuilder();
        for (int place : placesOf(desk, headword, form)) {
            text.append(bracketed(signsAt(desk, place)));
        }
        return text.toString();
    }

    private static int[] placesOf(DialectDictionary desk, int headword, int form) {
        int[] places = new int[9];
        int length = 0;
        while (length < places.length) {
            int index = length;
            Object place = outcome(() -> desk.letterOf(headword, form, index));
            if (!(place instanceof Integer)) {
                break;
            }
            places[length] = (Integer) place;
            length++;
        }
        return java.util.Arrays.copyOf(places, length);
    }

    private static String bracketed(String letter) {
        return letter.length() == 1 ? letter : "(" + letter + ")";
    }

    /** The row of a derivation, the forms set apart by blanks. */
    static String rowOf(DialectDictionary desk, int headword, int form) {
        StringBuilder text = new StringBuilder();
        int forms = desk.derived(headword, form, -1, 0);
        for (int index = 0; index < forms; index++) {
            int letters = desk.derived(headword, form, index, -1);
            for (int letter = 0; letter < letters; letter++) {
                text.append(bracketed(signsAt(desk, desk.derived(headword, form, index, letter))));
            }
            text.append(' ');
        }
        return text.toString().trim();
    }

    /** All that stands in the dictionary, as one text. An object has 512 calls, so no letter is asked for twice. */
    static String stateOf(DialectDictionary desk) {
        String[] letters = lettersOf(desk);
        StringBuilder text = new StringBuilder(String.join(" ", letters));
        int headwords = desk.account(0);
        for (int headword = 0; headword < headwords; headword++) {
            text.append('\n');
            int variants = desk.headword(headword, 0);
            for (int form = -1; form < variants; form++) {
                for (int place : placesOf(desk, headword, form)) {
                    text.append(bracketed(letters[place]));
                }
                text.append(' ');
            }
            text.append("> ").append(desk.headword(headword, 1));
        }
        return text.append(rulesOf(desk)).toString();
    }

    private static String rulesOf(DialectDictionary desk) {
        StringBuilder text = new StringBuilder();
        int rules = desk.account(3);
        for (int rule = 0; rule < rules; rule++) {
            text.append('\n');
            for (int what = 0; what < 4; what++) {
                text.append(desk.rule(rule, what)).append(' ');
            }
        }
        return text.toString();
    }

    /** What stands in a dictionary that is too full for stateOf: the accounts, and for each headword its numbers. */
    static String outlineOf(DialectDictionary desk) {
        StringBuilder text = new StringBuilder();
        for (int what = 0; what < 9; what++) {
            text.append(desk.account(what)).append(' ');
        }
        int headwords = desk.account(0);
        for (int headword = 0; headword < headwords; headword++) {
            text.append('\n');
            for (int what : new int[] {0, 1, 6}) {
                text.append(desk.headword(headword, what)).append(' ');
            }
            text.append(desk.letterOf(headword, -1, 0));
        }
        return text.append(rulesOf(desk)).toString();
    }

    static void end(String test) {
        System.out.println(test + ": " + made + " checks, " + wrong + " wrong");
        if (wrong != 0 || made == 0) {
            System.exit(1);
        }
    }
}
