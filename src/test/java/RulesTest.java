import java.util.NoSuchElementException;

/** Promises 20 to 26: rules, derivations and proofs. */
public final class RulesTest {
    private static final Class<?> ARGUMENT = IllegalArgumentException.class;
    private static final Class<?> BOUNDS = IndexOutOfBoundsException.class;
    private static final Class<?> STATE = IllegalStateException.class;
    private static final Class<?> MISSING = NoSuchElementException.class;
    private static final int A = 0;
    private static final int B = 1;
    private static final int E = 4;
    private static final int S = 18;

    public static void main(String[] args) {
        addRule();
        addRuleIsRefused();
        conditions();
        allPlacesAtOnce();
        lettersFallAway();
        vowelsByTheirFirstCharacter();
        exchange();
        removeRule();
        rule();
        ruleKeepsItsLetters();
        derived();
        by();
        proves();
        comesBack();
        Checks.end("RulesTest");
    }

    private static void addRule() {
        DialectDictionary desk = Checks.with("ab");
        for (int rule = 0; rule < 8; rule++) {
            Checks.due(rule, desk.addRule(A, E, 0, 0), "20: the number of the rule");
        }
        Checks.refused(STATE, () -> desk.addRule(A, E, 0, 0), "20: the ninth");
        Checks.refused(BOUNDS, () -> desk.addRule(26, E, 0, 0), "20: bounds come ahead of the number");
        Checks.refused(ARGUMENT, () -> desk.addRule(A, E, 4, 0), "20: conditions come ahead of the number");
        Checks.due("ab eb", Checks.rowOf(desk, 0, -1), "20: only the first one changes something");
    }

    private static void addRuleIsRefused() {
        DialectDictionary desk = new DialectDictionary();
        Checks.refused(BOUNDS, () -> desk.addRule(-1, 0, 0, 0), "20: from -1");
        Checks.refused(BOUNDS, () -> desk.addRule(26, 0, 0, 0), "20: from 26");
        Checks.refused(BOUNDS, () -> desk.addRule(0, 26, 0, 0), "20: to 26");
        Checks.refused(BOUNDS, () -> desk.addRule(0, -2, 0, 0), "20: to -2");
        Checks.refused(BOUNDS, () -> desk.addRule(26, 0, 9, 9), "20: the place comes ahead of the condition");
        Checks.refused(ARGUMENT, () -> desk.addRule(0, 0, -1, 0), "20: ahead -1");
        Checks.refused(ARGUMENT, () -> desk.addRule(0, 0, 4, 0), "20: ahead 4");
        Checks.refused(ARGUMENT, () -> desk.addRule(0, 0, 0, -1), "20: behind -1");
        Checks.refused(ARGUMENT, () -> desk.addRule(0, 0, 0, 4), "20: behind 4");
        Checks.due(0, desk.account(3), "20: no rule came");
        Checks.due(0, desk.addRule(25, -1, 3, 3), "20: the edges");
    }

    private static void conditions() {
        Checks.due("sasbs xaxbx", resultOf("sasbs", 0, 0), "20: anything, also nothing");
        Checks.due("sasbs saxbs", resultOf("sasbs", 1, 0), "20: a vowel ahead");
        Checks.due("sasbs sasbx", resultOf("sasbs", 2, 0), "20: a consonant ahead");
        Checks.due("sasbs xasbs", resultOf("sasbs", 3, 0), "20: nothing ahead");
        Checks.due("sasbs xasbs", resultOf("sasbs", 0, 1), "20: a vowel behind");
        Checks.due("sasbs saxbs", resultOf("sasbs", 0, 2), "20: a consonant behind");
        Checks.due("sasbs sasbx", resultOf("sasbs", 0, 3), "20: nothing behind");
        Checks.due("sasbs saxbs", resultOf("sasbs", 1, 2), "20: both conditions");
        Checks.due("sasbs", resultOf("sasbs", 2, 1), "20: one of them does not hold");
        Checks.due("s x", resultOf("s", 3, 3), "20: nothing on both sides");
        Checks.due("s", resultOf("s", 1, 0), "20: nothing is no vowel");
        Checks.due("s", resultOf("s", 0, 2), "20: nothing is no consonant");
        for (char sign = 'a'; sign <= 'z'; sign++) {
            boolean isVowel = "aeiou".indexOf(sign) >= 0;
            Checks.due(isVowel ? 2 : 1, ruled(sign + "z", 25, 1, 1, 0).derived(0, -1, -1, 0), "20: vowel " + sign);
            Checks.due(isVowel ? 1 : 2, ruled(sign + "z", 25, 1, 2, 0).derived(0, -1, -1, 0), "20: consonant " + sign);
        }
    }

    private static String resultOf(String form, int ahead, int behind) {
        return Checks.rowOf(ruled(form, S, 23, ahead, behind), 0, -1);
    }

    private static DialectDictionary ruled(String form, int from, int to, int ahead, int behind) {
        DialectDictionary desk = Checks.with(form);
        desk.addRule(from, to, ahead, behind);
        return desk;
    }

    private static void allPlacesAtOnce() {
        Checks.due("aaab aeeb", Checks.rowOf(ruled("aaab", A, E, 1, 0), 0, -1), "20: as it is before the rule");
        Checks.due("bbab abab", Checks.rowOf(ruled("bbab", B, A, 0, 2), 0, -1), "20: not as it becomes");
        Checks.due("aaab ab", Checks.rowOf(ruled("aaab", A, -1, 0, 1), 0, -1), "20: letters that fall away too");
        Checks.due("ab", Checks.rowOf(ruled("ab", A, A, 0, 0), 0, -1), "20: by itself nothing changes");
    }

    private static void lettersFallAway() {
        Checks.due("aba b", Checks.rowOf(ruled("aba", A, -1, 0, 0), 0, -1), "20: it falls away");
        Checks.due("aaa", Checks.rowOf(ruled("aaa", A, -1, 0, 0), 0, -1), "20: no letter would be left");
        Checks.due("a", Checks.rowOf(ruled("a", A, -1, 3, 3), 0, -1), "20: the only letter");
        Checks.due("abababab bbbb", Checks.rowOf(ruled("abababab", A, -1, 0, 0), 0, -1), "20: in eight letters");
    }

    private static void vowelsByTheirFirstCharacter() {
        DialectDictionary desk = new DialectDictionary();
        desk.addLetter('a', 'h', 26);
        desk.addLetter('h', 'a', 27);
        Checks.add(desk, "ahs");
        Checks.add(desk, "has");
        desk.addRule(S, 23, 1, 0);
        Checks.due("(ah)s (ah)x", Checks.rowOf(desk, 0, -1), "20: ah is a vowel");
        Checks.due("(ha)s", Checks.rowOf(desk, 1, -1), "20: ha is a consonant");
        desk.addRule(26, 27, 0, 0);
        Checks.due("(ah)s (ah)x (ha)x", Checks.rowOf(desk, 0, -1), "20: letters of two characters in rules");
    }

    private static void exchange() {
        DialectDictionary desk = Checks.with("a", "b", "x");
        desk.addRule(A, B, 0, 0);
        desk.addRule(B, 2, 0, 0);
        desk.addRule(25, 24, 1, 2);
        Checks.addVariant(desk, 2, "aa");
        Checks.due(1, desk.exchange(0, 1), "21: a becomes b instead of c");
        Checks.due("a b", Checks.rowOf(desk, 0, -1), "21: the result then");
        Checks.due(0, desk.exchange(2, 2), "21: the same");
        Checks.due(0, desk.exchange(1, 2), "21: the result stays");
        Checks.due("25 24 1 2", desk.rule(1, 0) + " " + desk.rule(1, 1) + " " + desk.rule(1, 2) + " " + desk.rule(1, 3),
                "21: all of the rule is exchanged");
        Checks.refused(BOUNDS, () -> desk.exchange(0, 3), "21: no such other");
        Checks.refused(BOUNDS, () -> desk.exchange(-1, 0), "21: no such rule");
    }

    private static void removeRule() {
        DialectDictionary desk = Checks.with("a");
        desk.addRule(A, B, 0, 0);
        desk.addRule(B, 2, 0, 1);
        desk.addRule(2, 3, 0, 2);
        Checks.due(2, desk.removeRule(0), "22: two are left");
        Checks.due(1, desk.rule(0, 0), "22: numbers decrease");
        Checks.due(2, desk.rule(1, 3), "22: all of them");
        Checks.refused(BOUNDS, () -> desk.removeRule(2), "22: no such rule");
        Checks.refused(BOUNDS, () -> desk.removeRule(-1), "22: rule -1");
        Checks.due(1, desk.removeRule(1), "22: the last one");
        Checks.due(0, desk.removeRule(0), "22: none is left");
    }

    private static void rule() {
        DialectDictionary desk = Checks.with("a", "b", "bb", "x");
        Checks.addVariant(desk, 3, "aa");
        desk.addRule(A, B, 1, 2);
        desk.addRule(A, B, 0, 0);
        desk.addRule(B, -1, 3, 3);
        desk.addRule(B, 2, 0, 3);
        int[] wantOfSecond = {0, 1, 0, 0, 1};
        int[] wantOfThird = {1, -1, 3, 3, 0};
        for (int what = 0; what < 5; what++) {
            Checks.due(wantOfSecond[what], desk.rule(1, what), "23: rule(1, " + what + ")");
            Checks.due(wantOfThird[what], desk.rule(2, what), "23: rule(2, " + what + ")");
        }
        Checks.due(3, desk.rule(3, 4), "23: also what rules ahead of it made");
        Checks.due(0, desk.rule(0, 4), "23: none");
        Checks.refused(ARGUMENT, () -> desk.rule(0, 5), "23: what 5");
        Checks.refused(ARGUMENT, () -> desk.rule(0, -1), "23: what -1");
        Checks.refused(BOUNDS, () -> desk.rule(4, 5), "23: the rule comes ahead of what");
        Checks.refused(BOUNDS, () -> desk.rule(-1, 0), "23: rule -1");
    }

    private static void ruleKeepsItsLetters() {
        DialectDictionary desk = Checks.with("ab");
        desk.addRule(A, B, 0, 0);
        desk.moveLetter(0, 25);
        Checks.due(25, desk.rule(0, 0), "23: the place moves with the letter");
        Checks.due(0, desk.rule(0, 1), "23: that of the other one too");
        desk.addLetter('c', 'h', 0);
        Checks.due(26, desk.rule(0, 0), "23: also when a letter is added");
        Checks.due("ab bb", Checks.rowOf(desk, 0, -1), "23: it changes what it changed");
    }

    private static void derived() {
        DialectDictionary desk = Checks.with("cas");
        Checks.addVariant(desk, 0, "sa");
        desk.addRule(A, E, 0, 0);
        desk.addRule(25, 24, 0, 0);
        desk.addRule(S, -1, 0, 3);
        Checks.due(3, desk.derived(0, -1, -1, 99), "24: the number of forms, whatever the letter");
        Checks.due(3, desk.derived(0, -1, 0, -1), "24: letters of the first");
        Checks.due(2, desk.derived(0, -1, 2, -1), "24: letters of the last");
        Checks.due(4, desk.derived(0, -1, 1, 1), "24: a letter");
        Checks.due("cas ces ce", Checks.rowOf(desk, 0, -1), "24: the row");
        Checks.due("sa se", Checks.rowOf(desk, 0, 0), "24: the row of a variant");
        Checks.refused(MISSING, () -> desk.derived(0, -1, 3, -1), "24: place 3");
        Checks.refused(MISSING, () -> desk.derived(0, -1, -2, -1), "24: place -2");
        Checks.refused(MISSING, () -> desk.derived(0, -1, 2, 2), "24: no such letter");
        Checks.refused(MISSING, () -> desk.derived(0, -1, 2, -2), "24: letter -2");
        Checks.refused(MISSING, () -> desk.derived(0, 1, -1, -1), "24: no such form");
        Checks.refused(MISSING, () -> desk.derived(0, -2, -1, -1), "24: form -2");
        Checks.refused(BOUNDS, () -> desk.derived(1, -1, -1, -1), "24: no such headword");
        desk.moveLetter(4, 0);
        Checks.due(0, desk.derived(0, -1, 1, 1), "24: the place in the alphabet as it is");
        longestRow();
    }

    private static void longestRow() {
        DialectDictionary desk = Checks.with("a");
        for (int rule = 0; rule < 8; rule++) {
            desk.addRule(rule, rule + 1, 0, 0);
        }
        Checks.due("a b c d e f g h i", Checks.rowOf(desk, 0, -1), "24: nine forms");
        Checks.due(7, desk.by(0, -1, 8), "25: the last rule");
    }

    private static void by() {
        DialectDictionary desk = Checks.with("cas");
        Checks.addVariant(desk, 0, "s");
        desk.addRule(25, 24, 0, 0);
        desk.addRule(A, E, 0, 0);
        desk.addRule(B, E, 0, 0);
        desk.addRule(S, 2, 0, 3);
        Checks.due(1, desk.by(0, -1, 1), "25: the first change");
        Checks.due(3, desk.by(0, -1, 2), "25: the second change");
        Checks.due(3, desk.by(0, 0, 1), "25: of a variant");
        Checks.refused(MISSING, () -> desk.by(0, -1, 0), "25: place 0");
        Checks.refused(MISSING, () -> desk.by(0, -1, -1), "25: place -1");
        Checks.refused(MISSING, () -> desk.by(0, -1, 3), "25: place 3");
        Checks.refused(MISSING, () -> desk.by(0, 1, 1), "25: no such form");
        Checks.refused(BOUNDS, () -> desk.by(1, 1, 1), "25: no such headword");
    }

    private static void proves() {
        DialectDictionary desk = Checks.with("cas", "ces");
        Checks.addVariant(desk, 1, "ce");
        Checks.addVariant(desk, 0, "xas");
        desk.addRule(A, E, 0, 0);
        desk.addRule(S, -1, 0, 3);
        Checks.due(1, desk.proves(0, -1, 1, -1), "26: age 1");
        Checks.due(2, desk.proves(0, -1, 1, 0), "26: age 2, a variant");
        Checks.due(1, desk.proves(1, -1, 1, 0), "26: in one headword");
        Checks.due(2, desk.headword(0, 5), "14: two forms come from it");
        Checks.due(1, desk.headword(1, 5), "14: one form comes from it");
        Checks.refused(MISSING, () -> desk.proves(1, -1, 0, -1), "26: the other way round");
        Checks.refused(MISSING, () -> desk.proves(0, -1, 0, -1), "26: not from itself");
        Checks.refused(MISSING, () -> desk.proves(0, 0, 1, -1), "26: not from a variant");
        Checks.refused(MISSING, () -> desk.proves(0, 1, 1, -1), "26: no such first form");
        Checks.refused(MISSING, () -> desk.proves(0, -1, 1, 1), "26: no such second form");
        Checks.refused(BOUNDS, () -> desk.proves(0, 9, 2, 9), "26: the headwords come ahead of the forms");
        Checks.refused(BOUNDS, () -> desk.proves(-1, -1, 0, -1), "26: headword -1");
    }

    private static void comesBack() {
        DialectDictionary desk = Checks.with("a", "b");
        desk.addRule(A, B, 0, 0);
        desk.addRule(B, A, 0, 0);
        desk.addRule(A, B, 0, 0);
        Checks.due("a b a b", Checks.rowOf(desk, 0, -1), "24: a row that comes back");
        Checks.due(2, desk.proves(0, -1, 0, -1), "26: a form comes from itself then");
        Checks.due(1, desk.proves(0, -1, 1, -1), "26: the lowest age");
        Checks.due(2, desk.headword(0, 5), "14: itself is counted");
        Checks.due(2, desk.proves(1, -1, 1, -1), "26: b comes back to itself");
        Checks.due(2, desk.headword(1, 5), "14: a and b come from b");
    }
}
