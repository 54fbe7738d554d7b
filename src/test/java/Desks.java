/** Dictionaries at the limits of the document, made by few calls, for an object has 512 of them. */
final class Desks {
    static final String TWENTY = "+a;+b;+c;+d;+e;+f;+g;+h;+i;+j;+k;+l;+m;+n;+o;+p;+q;+r;+s;+t";

    private static final String NINETEEN = TWENTY.substring(0, TWENTY.lastIndexOf(';'));
    private static final String TEN = TWENTY.substring(0, TWENTY.indexOf(";+k"));

    private Desks() {
    }

    /** The headwords 0 to n - 1 with the main forms a, b, c .. */
    static DialectDictionary headwords(int count) {
        DialectDictionary desk = new DialectDictionary();
        for (int headword = 0; headword < count; headword++) {
            Checks.add(desk, "" + (char) ('a' + headword));
        }
        return desk;
    }

    static DialectDictionary twentyHeadwords() {
        DialectDictionary desk = new DialectDictionary();
        Checks.perform(desk, TWENTY);
        return desk;
    }

    static DialectDictionary nineteenHeadwords() {
        DialectDictionary desk = new DialectDictionary();
        Checks.perform(desk, NINETEEN);
        return desk;
    }

    /** Ten headwords a to j with five variants each, aa, ba .. ea, ab .. ej; without the last one, ej. */
    static DialectDictionary fiftyNineForms() {
        DialectDictionary desk = new DialectDictionary();
        Checks.perform(desk, TEN);
        for (int headword = 0; headword < 10; headword++) {
            variants(desk, headword, headword < 9 ? 5 : 4);
        }
        return desk;
    }

    static DialectDictionary sixtyForms() {
        DialectDictionary desk = fiftyNineForms();
        Checks.addVariant(desk, 9, "ej");
        return desk;
    }

    /** Twenty headwords a to t, the first ten of them with four variants each. */
    static DialectDictionary twentyHeadwordsAndSixtyForms() {
        DialectDictionary desk = nineteenHeadwords();
        for (int headword = 0; headword < 10; headword++) {
            variants(desk, headword, 4);
        }
        Checks.add(desk, "t");
        return desk;
    }

    private static void variants(DialectDictionary desk, int headword, int count) {
        StringBuilder text = new StringBuilder();
        for (int variant = 0; variant < count; variant++) {
            text.append(variant == 0 ? "" : ";").append(headword).append('~');
            text.append((char) ('a' + variant)).append((char) ('a' + headword));
        }
        Checks.perform(desk, text.toString());
    }

    /** One headword, x, with five variants a to e, behind another one, y. */
    static DialectDictionary fiveVariants() {
        DialectDictionary desk = new DialectDictionary();
        Checks.perform(desk, "+y;+x;1~a;1~b;1~c;1~d;1~e");
        return desk;
    }

    /** Headwords a, b, c .., each of which refers to the next one. */
    static DialectDictionary chain(int count) {
        DialectDictionary desk = headwords(count);
        for (int headword = 0; headword < count - 1; headword++) {
            desk.refer(headword, headword + 1);
        }
        return desk;
    }

    /** The letters qa to qj behind z. */
    static DialectDictionary letters(int count) {
        DialectDictionary desk = new DialectDictionary();
        for (int letter = 0; letter < count; letter++) {
            desk.addLetter('q', (char) ('a' + letter), 26 + letter);
        }
        return desk;
    }

    /** Rules that make b of a, c of b .. */
    static DialectDictionary rules(int count, String... forms) {
        DialectDictionary desk = Checks.with(forms);
        for (int rule = 0; rule < count; rule++) {
            desk.addRule(rule, rule + 1, 0, 0);
        }
        return desk;
    }
}
