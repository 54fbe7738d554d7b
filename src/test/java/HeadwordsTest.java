import java.util.NoSuchElementException;

/** Promises 6 to 17: headwords, their forms and their order. */
public final class HeadwordsTest {
    private static final Class<?> ARGUMENT = IllegalArgumentException.class;
    private static final Class<?> BOUNDS = IndexOutOfBoundsException.class;
    private static final Class<?> REFUSED = UnsupportedOperationException.class;
    private static final Class<?> MISSING = NoSuchElementException.class;

    public static void main(String[] args) {
        add();
        addIsRefused();
        mostHeadwords();
        mostForms();
        addVariant();
        addVariantIsRefused();
        rename();
        promote();
        removeVariant();
        remove();
        find();
        headword();
        letterOf();
        ordered();
        compare();
        Checks.end("HeadwordsTest");
    }

    private static void add() {
        DialectDictionary desk = new DialectDictionary();
        Checks.due(0, Checks.add(desk, "a"), "6: the first");
        Checks.due(1, Checks.add(desk, "abcdefgh"), "6: eight letters");
        Checks.due(0, desk.account(8), "6: the buffer is empty");
        Checks.due("abcdefgh", Checks.formOf(desk, 1, -1), "6: the form");
        Checks.due(-1, desk.headword(1, 1), "6: no reference");
    }

    private static void addIsRefused() {
        DialectDictionary desk = Checks.with("ab", "cd");
        String before = Checks.stateOf(desk);
        refusedAdd(desk, "", "1:-1 1:0");
        refusedAdd(desk, "aB", "1:-1 1:0");
        refusedAdd(desk, "abcdefghij;", "1:-1 1:0");
        refusedAdd(desk, "a ", "1:-1 1:0");
        refusedAdd(desk, "`", "1:-1 1:0");
        refusedAdd(desk, "{", "1:-1 1:0");
        refusedAdd(desk, "abcdefghi", "1:-1 1:9");
        refusedAdd(desk, "x".repeat(60), "1:-1 1:60");
        refusedAdd(desk, "ab", "1:-1 2:0");
        refusedAdd(desk, "cd", "1:-1 2:1");
        Checks.addVariant(desk, 1, "ef");
        refusedAdd(desk, "ef", "1:-1 2:1");
        desk.removeVariant(1, 0);
        Checks.due(before, Checks.stateOf(desk), "6: the state stays");
        desk.addLetter('x', 'x', 0);
        refusedAdd(desk, "x".repeat(19), "1:-1 1:10");
        Checks.due(2, Checks.add(desk, "x".repeat(16)), "6: eight letters of two characters");
    }

    private static void refusedAdd(DialectDictionary desk, String text, String report) {
        Checks.refused(REFUSED, () -> Checks.add(desk, text), "6: add " + text);
        Checks.due(report, Checks.reportOf(desk), "6: the report of " + text);
        Checks.due(0, desk.account(8), "6: the buffer is empty after " + text);
    }

    private static void mostHeadwords() {
        DialectDictionary desk = new DialectDictionary();
        Checks.due(20, Checks.perform(desk, "+a;+b;+c;+d;+e;+f;+g;+h;+i;+j;+k;+l;+m;+n;+o;+p;+q;+r;+s;+t"), "31: 20");
        refusedAdd(desk, "u", "1:-1 3:20");
        refusedAdd(desk, "t", "1:-1 2:19");
        refusedAdd(desk, "uuuuuuuuu", "1:-1 1:9");
        // The document names 20 headwords as reason 3 for variants too; see NOTES.md.
        Checks.refused(REFUSED, () -> Checks.addVariant(desk, 3, "u"), "7: a variant with 20 headwords");
        Checks.due("2:3 3:20", Checks.reportOf(desk), "7: its report");
        Checks.due(1, Checks.fed(desk, "uu").rename(4), "8: renaming with 20 headwords");
        desk.remove(0);
        Checks.due(1, Checks.addVariant(desk, 3, "u"), "7: a variant with 19 headwords");
        Checks.due(19, Checks.add(desk, "a"), "6: there is room again");
    }

    private static void mostForms() {
        DialectDictionary desk = new DialectDictionary();
        for (int headword = 0; headword < 10; headword++) {
            Checks.add(desk, "a" + (char) ('a' + headword));
            for (int variant = 0; variant < 5; variant++) {
                Checks.addVariant(desk, headword, "b" + (char) ('a' + headword) + (char) ('a' + variant));
            }
        }
        Checks.due(60, desk.account(1), "28: 60 forms");
        refusedAdd(desk, "u", "1:-1 3:60");
        Checks.refused(REFUSED, () -> Checks.addVariant(desk, 3, "u"), "7: reason 3 comes ahead of 4");
        Checks.due("2:3 3:60", Checks.reportOf(desk), "7: its report");
        Checks.due(2, Checks.fed(desk, "u").rename(3), "8: renaming with 60 forms");
        desk.removeVariant(3, 0);
        Checks.due(5, Checks.addVariant(desk, 3, "v"), "7: there is room again");
        bothLimits(desk);
    }

    private static void bothLimits(DialectDictionary desk) {
        for (int headword = 0; headword < 10; headword++) {
            desk.removeVariant(headword, 4);
        }
        for (int headword = 10; headword < 20; headword++) {
            Checks.add(desk, "c" + (char) ('a' + headword));
        }
        Checks.due(60, desk.account(1), "28: 20 headwords with 60 forms");
        refusedAdd(desk, "w", "1:-1 3:20");
        Checks.refused(REFUSED, () -> Checks.addVariant(desk, 3, "w"), "7: both limits");
        Checks.due("2:3 3:20", Checks.reportOf(desk), "7: 20 is the detail");
    }

    private static void addVariant() {
        DialectDictionary desk = Checks.with("ab", "cd");
        Checks.due(1, Checks.addVariant(desk, 1, "ef"), "7: the first");
        Checks.due(2, Checks.addVariant(desk, 1, "eg"), "7: the second");
        Checks.due("eg", Checks.formOf(desk, 1, 1), "7: it is the last one");
        Checks.due("ef", Checks.formOf(desk, 1, 0), "7: behind the first one");
        Checks.due(0, desk.account(8), "7: the buffer is empty");
    }

    private static void addVariantIsRefused() {
        DialectDictionary desk = Checks.with("ab", "cd");
        Checks.fed(desk, "xy");
        Checks.refused(BOUNDS, () -> desk.addVariant(2), "7: no headword 2");
        Checks.refused(BOUNDS, () -> desk.addVariant(-1), "7: no headword -1");
        Checks.due(2, desk.account(8), "7: the buffer stays");
        Checks.due(1, desk.addVariant(1), "7: and can be used");
        refusedVariant(desk, "", "2:1 1:0");
        refusedVariant(desk, "a1", "2:1 1:0");
        refusedVariant(desk, "abcdefghi", "2:1 1:9");
        refusedVariant(desk, "ab", "2:1 2:0");
        refusedVariant(desk, "cd", "2:1 2:1");
        refusedVariant(desk, "xy", "2:1 2:1");
        Checks.perform(desk, "1~b;1~c;1~d;1~e");
        refusedVariant(desk, "f", "2:1 4:1");
        refusedVariant(desk, "b", "2:1 2:1");
        Checks.due(5, desk.headword(1, 0), "7: five variants stay");
    }

    private static void refusedVariant(DialectDictionary desk, String text, String report) {
        Checks.refused(REFUSED, () -> Checks.addVariant(desk, 1, text), "7: addVariant " + text);
        Checks.due(report, Checks.reportOf(desk), "7: the report of " + text);
        Checks.due(0, desk.account(8), "7: the buffer is empty after " + text);
    }

    private static void rename() {
        DialectDictionary desk = Checks.with("abc", "d");
        Checks.addVariant(desk, 0, "v");
        desk.refer(1, 0);
        Checks.due(3, Checks.fed(desk, "ef").rename(0), "8: the length that it had");
        Checks.due("ef", Checks.formOf(desk, 0, -1), "8: the new form");
        Checks.due("v", Checks.formOf(desk, 0, 0), "8: the variant stays");
        Checks.due(0, desk.headword(1, 1), "8: the reference stays");
        Checks.fed(desk, "gh");
        Checks.refused(BOUNDS, () -> desk.rename(2), "8: no such headword");
        Checks.due(2, desk.account(8), "8: the buffer stays");
        Checks.due(2, desk.rename(0), "8: and can be used");
        refusedRename(desk, "gh", "5:0 2:0");
        refusedRename(desk, "v", "5:0 2:0");
        refusedRename(desk, "d", "5:0 2:1");
        refusedRename(desk, "", "5:0 1:0");
        refusedRename(desk, "abcdefghi", "5:0 1:9");
        Checks.due("gh", Checks.formOf(desk, 0, -1), "8: the form stays");
        Checks.due(2, Checks.add(desk, "abc"), "8: the earlier form is free");
    }

    private static void refusedRename(DialectDictionary desk, String text, String report) {
        Checks.refused(REFUSED, () -> Checks.fed(desk, text).rename(0), "8: rename " + text);
        Checks.due(report, Checks.reportOf(desk), "8: the report of " + text);
        Checks.due(0, desk.account(8), "8: the buffer is empty after " + text);
    }

    private static void promote() {
        DialectDictionary desk = Checks.with("abc");
        Checks.addVariant(desk, 0, "d");
        Checks.addVariant(desk, 0, "ef");
        Checks.due(2, desk.promote(0, 1), "9: the length of the new main form");
        Checks.due("ef", Checks.formOf(desk, 0, -1), "9: the new main form");
        Checks.due("d", Checks.formOf(desk, 0, 0), "9: the other variant");
        Checks.due("abc", Checks.formOf(desk, 0, 1), "9: the earlier main form");
        Checks.refused(BOUNDS, () -> desk.promote(1, 0), "9: no such headword");
        Checks.refused(BOUNDS, () -> desk.promote(-1, 9), "9: no headword -1");
        Checks.refused(MISSING, () -> desk.promote(0, 2), "9: no such variant");
        Checks.refused(MISSING, () -> desk.promote(0, -1), "9: the main form is no variant");
    }

    private static void removeVariant() {
        DialectDictionary desk = Checks.with("a");
        Checks.perform(desk, "0~b;0~c;0~d");
        Checks.due(2, desk.removeVariant(0, 0), "10: two are left");
        Checks.due("c", Checks.formOf(desk, 0, 0), "10: later ones move up");
        Checks.due("d", Checks.formOf(desk, 0, 1), "10: all of them");
        Checks.refused(MISSING, () -> desk.removeVariant(0, 2), "10: no such variant");
        Checks.refused(MISSING, () -> desk.removeVariant(0, -1), "10: the main form is no variant");
        Checks.refused(BOUNDS, () -> desk.removeVariant(1, 0), "10: no such headword");
        Checks.due(1, desk.removeVariant(0, 1), "10: the last one");
        Checks.due(0, desk.removeVariant(0, 0), "10: none is left");
        Checks.due(1, Checks.addVariant(desk, 0, "b"), "10: the form is free");
    }

    private static void remove() {
        DialectDictionary desk = Checks.with("a", "b", "c", "d", "e");
        desk.refer(0, 1);
        desk.refer(1, 2);
        desk.refer(3, 1);
        desk.refer(4, 3);
        Checks.addVariant(desk, 1, "v");
        Checks.due(3, desk.remove(1), "11: two to it and its own one");
        Checks.due(4, desk.account(0), "11: four headwords");
        Checks.due(4, desk.account(1), "11: the variant is gone too");
        Checks.due("c", Checks.formOf(desk, 1, -1), "11: numbers decrease");
        Checks.due(-1, desk.headword(0, 1), "11: references to it are gone");
        Checks.due(2, desk.headword(3, 1), "11: references to later ones follow their numbers");
        Checks.due(0, desk.remove(0), "11: none is gone");
        Checks.refused(BOUNDS, () -> desk.remove(3), "11: no such headword");
        Checks.refused(BOUNDS, () -> desk.remove(-1), "11: no headword -1");
        Checks.due(3, Checks.add(desk, "v"), "11: its forms are free");
    }

    private static void find() {
        DialectDictionary desk = Checks.with("a", "bc");
        Checks.addVariant(desk, 1, "d");
        Checks.due(1, Checks.fed(desk, "bc").find(), "13: by its main form");
        Checks.due(1, Checks.fed(desk, "d").find(), "13: by a variant");
        Checks.due(0, desk.account(8), "13: the buffer is empty");
        for (String text : new String[] {"b", "", "a1", "abcdefghi", "aaaaaaaaa", "bcb"}) {
            Checks.refused(MISSING, () -> Checks.fed(desk, text).find(), "13: find " + text);
            Checks.due(0, desk.account(8), "13: the buffer is empty after " + text);
        }
        Checks.add(desk, "abcdefgh");
        Checks.refused(MISSING, () -> Checks.fed(desk, "abcdefghi").find(), "13: nine letters are no form");
        Checks.due("", Checks.reportOf(desk), "13: leaves no report");
    }

    private static void headword() {
        DialectDictionary desk = Checks.with("ca", "b", "ccc");
        Checks.perform(desk, "0~x;0~y;1>0;0>2");
        int[] wantOfFirst = {2, 2, 2, 1, 1, 0, 2};
        int[] wantOfSecond = {0, 0, 2, 0, 0, 0, 1};
        int[] wantOfThird = {0, -1, 2, 1, 2, 0, 3};
        for (int what = 0; what < 7; what++) {
            Checks.due(wantOfFirst[what], desk.headword(0, what), "14: headword(0, " + what + ")");
            Checks.due(wantOfSecond[what], desk.headword(1, what), "14: headword(1, " + what + ")");
            Checks.due(wantOfThird[what], desk.headword(2, what), "14: headword(2, " + what + ")");
        }
        Checks.refused(ARGUMENT, () -> desk.headword(0, 7), "14: what 7");
        Checks.refused(ARGUMENT, () -> desk.headword(0, -1), "14: what -1");
        Checks.refused(BOUNDS, () -> desk.headword(3, 7), "14: the headword comes ahead of what");
        Checks.refused(BOUNDS, () -> desk.headword(-1, 0), "14: headword -1");
    }

    private static void letterOf() {
        DialectDictionary desk = Checks.with("cab");
        Checks.addVariant(desk, 0, "z");
        Checks.due(2, desk.letterOf(0, -1, 0), "15: the first of the main form");
        Checks.due(1, desk.letterOf(0, -1, 2), "15: the last of the main form");
        Checks.due(25, desk.letterOf(0, 0, 0), "15: of a variant");
        Checks.refused(MISSING, () -> desk.letterOf(0, -1, 3), "15: behind the last");
        Checks.refused(MISSING, () -> desk.letterOf(0, -1, -1), "15: ahead of the first");
        Checks.refused(MISSING, () -> desk.letterOf(0, -1, 8), "15: index 8");
        Checks.refused(MISSING, () -> desk.letterOf(0, 1, 0), "15: no such variant");
        Checks.refused(MISSING, () -> desk.letterOf(0, -2, 0), "15: form -2");
        Checks.refused(BOUNDS, () -> desk.letterOf(1, -1, 0), "15: no such headword");
        Checks.refused(BOUNDS, () -> desk.letterOf(-1, 9, 9), "15: headword -1");
    }

    private static void ordered() {
        DialectDictionary desk = Checks.with("b", "ab", "a", "abc", "c");
        int[] want = {2, 1, 3, 0, 4};
        for (int place = 0; place < 5; place++) {
            Checks.due(want[place], desk.ordered(place), "16: ordered(" + place + ")");
            Checks.due(place, desk.headword(want[place], 4), "14: the place of " + want[place]);
        }
        Checks.refused(MISSING, () -> desk.ordered(5), "16: place 5");
        Checks.refused(MISSING, () -> desk.ordered(-1), "16: place -1");
        Checks.addVariant(desk, 4, "aa");
        Checks.due(4, desk.ordered(4), "16: variants do not count");
        desk.moveLetter(2, 0);
        Checks.due(4, desk.ordered(0), "16: by the alphabet as it is");
        Checks.due(3, desk.ordered(3), "16: in all letters");
    }

    private static void compare() {
        DialectDictionary desk = Checks.with("ab", "abc");
        Checks.addVariant(desk, 1, "b");
        Checks.due(-1, desk.compare(0, -1, 1, -1), "17: the shorter one comes first");
        Checks.due(1, desk.compare(1, -1, 0, -1), "17: the other way round");
        Checks.due(0, desk.compare(1, 0, 1, 0), "17: the same");
        Checks.due(-1, desk.compare(1, -1, 1, 0), "17: the first different letter decides");
        Checks.due(1, desk.compare(1, 0, 0, -1), "17: not the length");
        desk.moveLetter(1, 0);
        Checks.due(-1, desk.compare(1, 0, 0, -1), "17: by the alphabet as it is");
        Checks.refused(BOUNDS, () -> desk.compare(2, 9, 0, -1), "17: no first headword");
        Checks.refused(BOUNDS, () -> desk.compare(0, 9, 2, 9), "17: no second headword, ahead of the form");
        Checks.refused(MISSING, () -> desk.compare(0, 0, 1, -1), "17: no first form");
        Checks.refused(MISSING, () -> desk.compare(0, -1, 1, 1), "17: no second form");
    }
}
