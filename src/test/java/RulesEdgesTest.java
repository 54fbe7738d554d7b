import java.util.NoSuchElementException;

/** Promises 20 to 26, rules and derivations at their limits: a test for each such sentence. */
public final class RulesEdgesTest {
    private static final Class<?> ARGUMENT = IllegalArgumentException.class;
    private static final Class<?> BOUNDS = IndexOutOfBoundsException.class;
    private static final Class<?> STATE = IllegalStateException.class;
    private static final Class<?> MISSING = NoSuchElementException.class;
    private static final int[] NO_PLACES = {26, 27, 36, Integer.MIN_VALUE, Integer.MAX_VALUE};
    private static final int[] NO_RULES = {-1, 3, 8, Integer.MIN_VALUE, Integer.MAX_VALUE};

    public static void main(String[] args) {
        eightRules();
        lettersToLookFor();
        lettersThatTakeTheirPlace();
        conditionsOutOfRange();
        exceptionNamedFirst();
        anythingAlsoNothing();
        vowelsAndConsonants();
        beginningAndEnd();
        vowelsByFirstCharacter();
        allPlacesAtOnce();
        noLetterWouldBeLeft();
        ruleThatChangesNothing();
        inTheOrderOfTheirNumbers();
        rulesToExchange();
        headwordsWithAnotherResult();
        rulesToRemove();
        laterRulesDecrease();
        rulesToLookAt();
        whatOfARule();
        lettersOfARuleStay();
        mainFormsThatItChanges();
        headwordsToDerive();
        formsToDerive();
        placesOfTheRow();
        lettersOfTheRow();
        letterDoesNotMatter();
        placesOfBy();
        comesFrom();
        lowestAge();
        comesFromItself();
        doesNotCome();
        Checks.end("RulesEdgesTest");
    }

    /** The row of a form by one rule; the letters as signs, to '-' for none. */
    private static String row(String form, char from, char to, int ahead, int behind) {
        DialectDictionary desk = Checks.with(form);
        desk.addRule(from - 'a', to == '-' ? -1 : to - 'a', ahead, behind);
        return Checks.rowOf(desk, 0, -1);
    }

    private static DialectDictionary three() {
        return Checks.fed(Desks.rules(3, "a", "xb"), "y");
    }

    private static void eightRules() {
        Checks.sentence("20: IllegalStateException if there are 8 rules");
        DialectDictionary desk = new DialectDictionary();
        for (int rule = 0; rule < 8; rule++) {
            Checks.due(rule, desk.addRule(rule, 25 - rule, rule % 4, 3 - rule % 4), "rule " + rule);
        }
        Checks.due(8, desk.account(3), "the rules");
        for (int rule = 0; rule < 8; rule++) {
            Checks.due(rule, desk.rule(rule, 0), "what rule " + rule + " looks for");
            Checks.due(25 - rule, desk.rule(rule, 1), "what takes its place");
            Checks.due(rule % 4, desk.rule(rule, 2), "the condition ahead");
            Checks.due(3 - rule % 4, desk.rule(rule, 3), "the condition behind");
        }
        Twins.traceless(() -> Desks.rules(8, "a"), STATE, d -> d.addRule(0, 1, 0, 0), "the ninth");
        Twins.traceless(() -> Desks.rules(8, "a"), STATE, d -> d.addRule(25, -1, 3, 3), "the ninth, another one");
        desk.removeRule(0);
        Checks.due(7, desk.addRule(0, 1, 0, 0), "the eighth again");
        desk.undo();
        Checks.due(7, desk.addRule(0, 2, 0, 0), "the eighth behind undo");
        Checks.refused(STATE, () -> desk.addRule(0, 3, 0, 0), "the ninth again");
    }

    private static void lettersToLookFor() {
        Checks.sentence("20: from: IndexOutOfBoundsException if there is no such place");
        Twins.traceless(RulesEdgesTest::three, BOUNDS, d -> d.addRule(-1, 0, 0, 0), "from -1");
        for (int from : NO_PLACES) {
            Twins.traceless(RulesEdgesTest::three, BOUNDS, d -> d.addRule(from, 0, 0, 0), "from " + from);
            Twins.traceless(RulesEdgesTest::three, BOUNDS, d -> d.addRule(from, -1, 0, 0), "from " + from + " to none");
        }
        Checks.due("a z", row("a", 'a', 'z', 0, 0), "from 0");
        Checks.due("z a", row("z", 'z', 'a', 0, 0), "from 25");
        DialectDictionary desk = Desks.letters(10);
        Checks.due(0, desk.addRule(35, 0, 0, 0), "from 35 of 36");
        Checks.refused(BOUNDS, () -> desk.addRule(36, 0, 0, 0), "from 36 of 36");
    }

    private static void lettersThatTakeTheirPlace() {
        Checks.sentence("20: to: the place of the letter that takes its place, or -1 for none");
        Twins.traceless(RulesEdgesTest::three, BOUNDS, d -> d.addRule(0, -2, 0, 0), "to -2");
        for (int to : NO_PLACES) {
            Twins.traceless(RulesEdgesTest::three, BOUNDS, d -> d.addRule(0, to, 0, 0), "to " + to);
        }
        Checks.due("ba b", row("ba", 'a', '-', 0, 0), "to -1");
        Checks.due("ba bz", row("ba", 'a', 'z', 0, 0), "to 25");
        Checks.due("bz ba", row("bz", 'z', 'a', 0, 0), "to 0");
        DialectDictionary desk = Desks.letters(10);
        Checks.add(desk, "aqj");
        Checks.due(0, desk.addRule(0, 35, 0, 0), "to 35 of 36");
        Checks.due("a(qj) (qj)(qj)", Checks.rowOf(desk, 0, -1), "the last letter takes its place");
        Checks.refused(BOUNDS, () -> desk.addRule(0, 36, 0, 0), "to 36 of 36");
    }

    private static void conditionsOutOfRange() {
        Checks.sentence("20: IllegalArgumentException if a condition is out of range");
        for (int condition : new int[] {-1, 4, 5, Integer.MIN_VALUE, Integer.MAX_VALUE}) {
            Twins.traceless(RulesEdgesTest::three, ARGUMENT, d -> d.addRule(0, 1, condition, 0), "ahead " + condition);
            Twins.traceless(RulesEdgesTest::three, ARGUMENT, d -> d.addRule(0, 1, 0, condition), "behind " + condition);
        }
        for (int condition = 0; condition <= 3; condition++) {
            Checks.due(3, three().addRule(0, 1, condition, 0), "ahead " + condition);
            Checks.due(3, three().addRule(0, 1, 0, condition), "behind " + condition);
        }
    }

    private static void exceptionNamedFirst() {
        Checks.sentence("Terms: If several exceptions apply, the one named first is thrown.");
        Twins.Maker most = () -> Desks.rules(8, "a");
        Twins.traceless(most, BOUNDS, d -> d.addRule(26, 0, 4, 4), "20: place, condition and number");
        Twins.traceless(most, BOUNDS, d -> d.addRule(0, -2, -1, 0), "20: the second place, condition and number");
        Twins.traceless(most, ARGUMENT, d -> d.addRule(0, -1, 0, 4), "20: condition and number");
        Twins.traceless(most, BOUNDS, d -> d.rule(8, 5), "23: rule and what");
        Twins.traceless(most, BOUNDS, d -> d.derived(1, 9, 99, 99), "24: headword, form, place and letter");
        Twins.traceless(most, BOUNDS, d -> d.by(1, 9, 99), "25: headword, form and place");
        Twins.traceless(most, BOUNDS, d -> d.proves(0, 9, 1, 9), "26: the second headword and the forms");
        Twins.traceless(most, BOUNDS, d -> d.proves(1, 9, 0, 9), "26: the first headword and the forms");
    }

    private static void anythingAlsoNothing() {
        Checks.sentence("Rules: 0 anything, also nothing");
        Checks.due("s x", row("s", 's', 'x', 0, 0), "the only letter");
        Checks.due("sss xxx", row("sss", 's', 'x', 0, 0), "three letters");
        Checks.due("asbsa axbxa", row("asbsa", 's', 'x', 0, 0), "beside vowels and consonants");
        Checks.due("ssssssss xxxxxxxx", row("ssssssss", 's', 'x', 0, 0), "eight letters");
    }

    private static void vowelsAndConsonants() {
        Checks.sentence("Rules: 1 a vowel; 2 a consonant");
        Checks.due("s", row("s", 's', 'x', 1, 0), "nothing ahead is no vowel");
        Checks.due("s", row("s", 's', 'x', 2, 0), "nothing ahead is no consonant");
        Checks.due("s", row("s", 's', 'x', 0, 1), "nothing behind is no vowel");
        Checks.due("s", row("s", 's', 'x', 0, 2), "nothing behind is no consonant");
        Checks.due("saaaaaas saaaaaax", row("saaaaaas", 's', 'x', 1, 0), "the eighth letter, a vowel ahead");
        Checks.due("saaaaaas xaaaaaas", row("saaaaaas", 's', 'x', 0, 1), "the first of eight, a vowel behind");
        Checks.due("sbbbbbbs sbbbbbbx", row("sbbbbbbs", 's', 'x', 2, 0), "the eighth letter, a consonant ahead");
        Checks.due("sbbbbbbs xbbbbbbs", row("sbbbbbbs", 's', 'x', 0, 2), "the first of eight, a consonant behind");
        Checks.due("asb axb", row("asb", 's', 'x', 1, 2), "both conditions hold");
        Checks.due("asa", row("asa", 's', 'x', 1, 2), "the one behind does not");
        Checks.due("bsb", row("bsb", 's', 'x', 1, 2), "the one ahead does not");
        Checks.sentence("Rules: Vowels are the letters whose first character is a, e, i, o or u; all others are "
                + "consonants.");
        for (char sign = 'a'; sign <= 'z'; sign++) {
            boolean isVowel = "aeiou".indexOf(sign) >= 0;
            String form = "b" + sign;
            if (sign != 'b') {
                Checks.due(isVowel, !row(form, 'b', 'c', 0, 1).equals(form), sign + " is a vowel");
                Checks.due(!isVowel, !row(form, 'b', 'c', 0, 2).equals(form), sign + " is a consonant");
            }
        }
        Checks.due("bb cb", row("bb", 'b', 'c', 0, 2), "b is a consonant");
        Checks.due("bb", row("bb", 'b', 'c', 0, 1), "b is no vowel");
    }

    private static void beginningAndEnd() {
        Checks.sentence("Rules: 3 nothing, which is the beginning or the end of the form");
        Checks.due("s x", row("s", 's', 'x', 3, 3), "the only letter, both");
        Checks.due("ss xs", row("ss", 's', 'x', 3, 0), "the beginning of two");
        Checks.due("ss sx", row("ss", 's', 'x', 0, 3), "the end of two");
        Checks.due("ss", row("ss", 's', 'x', 3, 3), "neither of two is both");
        Checks.due("ssssssss xsssssss", row("ssssssss", 's', 'x', 3, 0), "the beginning of eight");
        Checks.due("ssssssss sssssssx", row("ssssssss", 's', 'x', 0, 3), "the end of eight");
        Checks.due("asa", row("asa", 's', 'x', 3, 0), "not in the middle, ahead");
        Checks.due("asa", row("asa", 's', 'x', 0, 3), "not in the middle, behind");
    }

    private static void vowelsByFirstCharacter() {
        Checks.sentence("Rules: Vowels are the letters whose first character is a, e, i, o or u");
        for (String letter : new String[] {"ab", "eh", "iz", "oo", "ub"}) {
            Checks.due(2, formsBehind(letter, 1), letter + " is a vowel");
            Checks.due(1, formsBehind(letter, 2), letter + " is no consonant");
        }
        for (String letter : new String[] {"ba", "ha", "ze", "yu", "qo"}) {
            Checks.due(1, formsBehind(letter, 1), letter + " is no vowel");
            Checks.due(2, formsBehind(letter, 2), letter + " is a consonant");
        }
    }

    /** The forms of the derivation of s and this letter, if s changes ahead of the condition. */
    private static int formsBehind(String letter, int condition) {
        DialectDictionary desk = new DialectDictionary();
        desk.addLetter(letter.charAt(0), letter.charAt(1), 26);
        Checks.add(desk, "s" + letter);
        desk.addRule('s' - 'a', 'x' - 'a', 0, condition);
        return desk.derived(0, -1, -1, 0);
    }

    private static void allPlacesAtOnce() {
        Checks.sentence("Rules: at all places at once: each letter that it looks for, for which both conditions "
                + "hold in the form as it is before the rule");
        Checks.due("bbbb baaa", row("bbbb", 'b', 'a', 2, 0), "a consonant ahead, as it was");
        Checks.due("bbbb aaab", row("bbbb", 'b', 'a', 0, 2), "a consonant behind, as it was");
        Checks.due("aaaa abbb", row("aaaa", 'a', 'b', 1, 0), "a vowel ahead, as it was");
        Checks.due("aaaaaaaa a", row("aaaaaaaa", 'a', '-', 1, 0), "seven of eight fall away");
        Checks.due("aaaaaaaa a", row("aaaaaaaa", 'a', '-', 0, 1), "the other seven of eight fall away");
        Checks.due("ssa sa", row("ssa", 's', '-', 3, 0), "the beginning is that of the form before the rule");
        Checks.due("ass as", row("ass", 's', '-', 0, 3), "the end too");
    }

    private static void noLetterWouldBeLeft() {
        Checks.sentence("Rules: If no letter would be left, the rule leaves the form as it is.");
        Checks.due("a", row("a", 'a', '-', 0, 0), "one letter");
        Checks.due("aa", row("aa", 'a', '-', 0, 0), "two letters");
        Checks.due("aaaaaaaa", row("aaaaaaaa", 'a', '-', 0, 0), "eight letters");
        Checks.due("aaaaaaab b", row("aaaaaaab", 'a', '-', 0, 0), "one of eight is left, the last");
        Checks.due("baaaaaaa b", row("baaaaaaa", 'a', '-', 0, 0), "one of eight is left, the first");
        Checks.due("aa a", row("aa", 'a', '-', 3, 0), "one of two");
        DialectDictionary desk = Checks.with("ab");
        desk.addRule(0, -1, 0, 0);
        desk.addRule(1, -1, 0, 0);
        Checks.due("ab b", Checks.rowOf(desk, 0, -1), "the second rule would leave none");
        Checks.due(0, desk.rule(1, 4), "it changes nothing");
        Checks.refused(MISSING, () -> desk.by(0, -1, 2), "it adds no form");
    }

    private static void ruleThatChangesNothing() {
        Checks.sentence("Derivations: adds the form as it is behind the rule, if the rule changed it");
        Checks.due("aba", row("aba", 'c', 'd', 0, 0), "a letter that is not there");
        Checks.due("aba", row("aba", 'a', 'a', 0, 0), "a letter by itself");
        Checks.due("aba", row("aba", 'a', 'b', 3, 3), "conditions that never hold");
        Checks.due("aba", Checks.rowOf(Checks.with("aba"), 0, -1), "no rules");
        Checks.due(1, Checks.with("aba").derived(0, -1, -1, -1), "no rules, one form");
        DialectDictionary desk = Checks.with("a");
        desk.addRule(0, 1, 0, 0);
        desk.addRule(0, 2, 0, 0);
        desk.addRule(1, 3, 0, 0);
        Checks.due("a b d", Checks.rowOf(desk, 0, -1), "the second of three changes nothing");
        Checks.due(2, desk.by(0, -1, 2), "the third rule made the second change");
    }

    private static void inTheOrderOfTheirNumbers() {
        Checks.sentence("Derivations: the row of forms that begins with it, and in which each rule, in the "
                + "order of their numbers, adds the form");
        DialectDictionary desk = Desks.rules(8, "a");
        Checks.due(9, desk.derived(0, -1, -1, 0), "nine forms by eight rules");
        Checks.due("a b c d e f g h i", Checks.rowOf(desk, 0, -1), "the row");
        for (int place = 1; place <= 8; place++) {
            Checks.due(place - 1, desk.by(0, -1, place), "the rule of place " + place);
        }
        desk.exchange(0, 1);
        Checks.due("a b", Checks.rowOf(desk, 0, -1), "by exchanged rules");
        Checks.due(1, desk.by(0, -1, 1), "the rule then");
    }

    private static void rulesToExchange() {
        Checks.sentence("21: IndexOutOfBoundsException if there is no such rule");
        for (int rule : NO_RULES) {
            Twins.traceless(RulesEdgesTest::three, BOUNDS, d -> d.exchange(rule, 0), rule + " and 0");
            Twins.traceless(RulesEdgesTest::three, BOUNDS, d -> d.exchange(0, rule), "0 and " + rule);
            Twins.traceless(RulesEdgesTest::three, BOUNDS, d -> d.exchange(rule, rule), rule + " and itself");
        }
        Twins.traceless(() -> Desks.rules(8, "a"), BOUNDS, d -> d.exchange(8, 8), "8 of 8 and itself");
        Twins.traceless(() -> Checks.with("a"), BOUNDS, d -> d.exchange(0, 0), "0 of none and itself");
        DialectDictionary desk = Desks.rules(8, "a");
        Checks.due(1, desk.exchange(0, 7), "0 and 7");
        Checks.due(7, desk.rule(0, 0), "the rule 0");
        Checks.due(0, desk.rule(7, 0), "the rule 7");
        Checks.due(1, desk.exchange(7, 0), "7 and 0");
        Checks.due(0, desk.rule(0, 0), "the rule 0 again");
    }

    private static void headwordsWithAnotherResult() {
        Checks.sentence("21: Returns the number of headwords for which the result of the main form is another "
                + "one then.");
        DialectDictionary desk = Desks.rules(2, "a", "b", "c", "ax", "xa");
        Checks.due(3, desk.exchange(0, 1), "a, ax and xa");
        Checks.due("a b", Checks.rowOf(desk, 0, -1), "the row then");
        Checks.due(3, desk.exchange(1, 0), "back again");
        Checks.due(0, desk.exchange(0, 0), "0 and itself");
        Checks.due(0, desk.exchange(1, 1), "1 and itself");
        Checks.due(0, Desks.rules(2).exchange(0, 1), "without headwords");
        DialectDictionary variants = Desks.rules(2, "x");
        Checks.addVariant(variants, 0, "a");
        Checks.due(0, variants.exchange(0, 1), "variants do not count");
        DialectDictionary most = Checks.with();
        for (int headword = 0; headword < 20; headword++) {
            Checks.add(most, "a" + (char) ('a' + headword));
        }
        most.addRule(0, 1, 3, 0);
        most.addRule(1, 2, 3, 0);
        Checks.due(20, most.exchange(0, 1), "all of 20");
        DialectDictionary same = Checks.with("ab");
        same.addRule(0, 2, 0, 0);
        same.addRule(1, 3, 0, 0);
        Checks.due(0, same.exchange(0, 1), "another row with the same result");
        Checks.due("ab ad cd", Checks.rowOf(same, 0, -1), "the row then");
    }

    private static void rulesToRemove() {
        Checks.sentence("22: IndexOutOfBoundsException if there is no such rule");
        for (int rule : NO_RULES) {
            Twins.traceless(RulesEdgesTest::three, BOUNDS, d -> d.removeRule(rule), "rule " + rule);
        }
        Twins.traceless(() -> Desks.rules(8, "a"), BOUNDS, d -> d.removeRule(8), "rule 8 of 8");
        Twins.traceless(() -> Checks.with("a"), BOUNDS, d -> d.removeRule(0), "rule 0 of none");
        Checks.sentence("22: Returns the number of rules that are left.");
        DialectDictionary desk = Desks.rules(8, "a");
        for (int left = 7; left >= 0; left--) {
            Checks.due(left, desk.removeRule(left), "the last one, " + left);
        }
        Checks.refused(BOUNDS, () -> desk.removeRule(0), "none is left");
        Checks.due(1, desk.derived(0, -1, -1, 0), "nothing is derived");
        Checks.due(0, desk.addRule(0, 1, 0, 0), "numbers begin at 0 again");
    }

    private static void laterRulesDecrease() {
        Checks.sentence("22: Removes a rule. The numbers of the later ones decrease by 1.");
        Checks.due("1 2 3 4 5 6 7", rulesWithout(0), "without the first");
        Checks.due("0 1 2 4 5 6 7", rulesWithout(3), "without the fourth");
        Checks.due("0 1 2 3 4 5 6", rulesWithout(7), "without the last");
    }

    private static String rulesWithout(int removed) {
        DialectDictionary desk = new DialectDictionary();
        for (int rule = 0; rule < 8; rule++) {
            desk.addRule(rule, rule == 3 ? -1 : 25 - rule, rule % 4, (rule + 1) % 4);
        }
        desk.removeRule(removed);
        StringBuilder text = new StringBuilder();
        for (int rule = 0; rule < 7; rule++) {
            int letter = desk.rule(rule, 0);
            text.append(letter).append(' ');
            Checks.due(letter == 3 ? -1 : 25 - letter, desk.rule(rule, 1), "what takes the place of " + letter);
            Checks.due(letter % 4, desk.rule(rule, 2), "the condition ahead of " + letter);
            Checks.due((letter + 1) % 4, desk.rule(rule, 3), "the condition behind " + letter);
        }
        Checks.refused(BOUNDS, () -> desk.rule(7, 0), "an eighth rule");
        return text.toString().trim();
    }

    private static void rulesToLookAt() {
        Checks.sentence("23: IndexOutOfBoundsException if there is no such rule");
        for (int rule : NO_RULES) {
            for (int what : new int[] {-1, 0, 4, 5}) {
                Twins.traceless(RulesEdgesTest::three, BOUNDS, d -> d.rule(rule, what), "rule " + rule + ", " + what);
            }
        }
        Checks.due(7, Desks.rules(8, "a").rule(7, 0), "rule 7 of 8");
        Checks.due(0, Desks.rules(8, "a").rule(0, 0), "rule 0 of 8");
    }

    private static void whatOfARule() {
        Checks.sentence("23: IllegalArgumentException if what is out of range");
        for (int what : new int[] {-1, 5, 6, Integer.MIN_VALUE, Integer.MAX_VALUE}) {
            Twins.traceless(RulesEdgesTest::three, ARGUMENT, d -> d.rule(2, what), "what " + what);
        }
        DialectDictionary desk = Checks.with("z");
        desk.addRule(25, -1, 3, 3);
        int[] want = {25, -1, 3, 3, 0};
        for (int what = 0; what < 5; what++) {
            Checks.due(want[what], desk.rule(0, what), "what " + what);
        }
        desk.addRule(25, 0, 0, 0);
        int[] wantOfSecond = {25, 0, 0, 0, 1};
        for (int what = 0; what < 5; what++) {
            Checks.due(wantOfSecond[what], desk.rule(1, what), "what " + what + " of the second rule");
        }
    }

    private static void lettersOfARuleStay() {
        Checks.sentence("23: The letters of a rule stay what they are when the alphabet changes.");
        DialectDictionary desk = Checks.with("az");
        desk.addRule(0, 25, 0, 0);
        desk.addRule(1, -1, 0, 0);
        desk.moveLetter(25, 0);
        Checks.due("1 0", desk.rule(0, 0) + " " + desk.rule(0, 1), "their places by moving");
        desk.addLetter('a', 'z', 0);
        Checks.due("2 1", desk.rule(0, 0) + " " + desk.rule(0, 1), "their places by adding");
        Checks.due(-1, desk.rule(1, 1), "none stays none");
        Checks.due("az zz", Checks.rowOf(desk, 0, -1), "the row");
        desk.undo();
        Checks.due("1 0", desk.rule(0, 0) + " " + desk.rule(0, 1), "their places behind undo");
    }

    private static void mainFormsThatItChanges() {
        Checks.sentence("23: 4 the number of main forms in whose derivation it changes something");
        DialectDictionary desk = Desks.rules(8, "a", "h", "i", "hh");
        Checks.addVariant(desk, 2, "aa");
        Checks.due(1, desk.rule(0, 4), "the first rule");
        Checks.due(1, desk.rule(6, 4), "the seventh rule");
        Checks.due(3, desk.rule(7, 4), "the last rule");
        Checks.due(0, Desks.rules(1).rule(0, 4), "without headwords");
        DialectDictionary most = Desks.twentyHeadwords();
        most.addRule(19, 0, 0, 0);
        Checks.due(1, most.rule(0, 4), "one of 20");
        DialectDictionary all = Desks.chain(20);
        for (int headword = 0; headword < 20; headword++) {
            Checks.rename(all, headword, "z" + (char) ('a' + headword));
        }
        all.addRule(25, 24, 3, 0);
        Checks.due(20, all.rule(0, 4), "all of 20");
    }

    private static void headwordsToDerive() {
        Checks.sentence("24 to 26: IndexOutOfBoundsException if there is no such headword");
        for (int headword : new int[] {-1, 2, 20, Integer.MIN_VALUE, Integer.MAX_VALUE}) {
            Twins.traceless(RulesEdgesTest::three, BOUNDS, d -> d.derived(headword, -1, -1, 0), "24: " + headword);
            Twins.traceless(RulesEdgesTest::three, BOUNDS, d -> d.by(headword, -1, 1), "25: " + headword);
            Twins.traceless(RulesEdgesTest::three, BOUNDS, d -> d.proves(headword, -1, 0, -1), "26: " + headword);
            Twins.traceless(RulesEdgesTest::three, BOUNDS, d -> d.proves(0, -1, headword, -1), "26: by " + headword);
        }
        DialectDictionary desk = Desks.twentyHeadwords();
        desk.addRule(18, 19, 0, 0);
        Checks.due(2, desk.derived(18, -1, -1, 0), "24: headword 18 of 20");
        Checks.due(1, desk.derived(19, -1, -1, 0), "24: headword 19 of 20");
        Checks.due(1, desk.proves(18, -1, 19, -1), "26: headword 19 of 20");
        Checks.refused(BOUNDS, () -> desk.derived(20, -1, -1, 0), "24: headword 20 of 20");
        Checks.refused(BOUNDS, () -> desk.by(20, -1, 1), "25: headword 20 of 20");
        Checks.refused(BOUNDS, () -> desk.proves(18, -1, 20, -1), "26: headword 20 of 20");
    }

    private static DialectDictionary fiveVariantsAndARule() {
        DialectDictionary desk = Desks.fiveVariants();
        desk.addRule(4, 3, 0, 0);
        desk.addRule(23, 24, 0, 0);
        return desk;
    }

    private static void formsToDerive() {
        Checks.sentence("24 to 26: NoSuchElementException if there is no such form");
        Twins.Maker maker = RulesEdgesTest::fiveVariantsAndARule;
        for (int form : new int[] {-2, 5, 6, Integer.MIN_VALUE, Integer.MAX_VALUE}) {
            Twins.traceless(maker, MISSING, d -> d.derived(1, form, -1, 0), "24: form " + form);
            Twins.traceless(maker, MISSING, d -> d.derived(1, form, 0, 0), "24: form " + form + ", place 0");
            Twins.traceless(maker, MISSING, d -> d.by(1, form, 1), "25: form " + form);
            Twins.traceless(maker, MISSING, d -> d.proves(1, form, 1, 3), "26: form " + form);
            Twins.traceless(maker, MISSING, d -> d.proves(1, 4, 1, form), "26: by form " + form);
        }
        Twins.traceless(maker, MISSING, d -> d.derived(0, 0, -1, 0), "24: variant 0 of none");
        DialectDictionary desk = maker.make();
        Checks.due(2, desk.derived(1, 4, -1, 0), "24: variant 4");
        Checks.due(1, desk.derived(1, 0, -1, 0), "24: variant 0");
        Checks.due(2, desk.derived(1, -1, -1, 0), "24: the main form");
        Checks.due(0, desk.by(1, 4, 1), "25: variant 4");
        Checks.due(1, desk.by(1, -1, 1), "25: the main form");
        Checks.due(1, desk.proves(1, 4, 1, 3), "26: variants 4 and 3");
        Checks.due(1, desk.proves(1, -1, 0, -1), "26: the main forms");
    }

    private static void placesOfTheRow() {
        Checks.sentence("24: index: the place in the row, from 0, or -1 for the number of forms in the row");
        Twins.Maker most = () -> Desks.rules(8, "a", "x");
        for (int index : new int[] {-2, 9, 10, Integer.MIN_VALUE, Integer.MAX_VALUE}) {
            Twins.traceless(most, MISSING, d -> d.derived(0, -1, index, -1), "place " + index + " of nine");
            Twins.traceless(most, MISSING, d -> d.derived(0, -1, index, 0), "place " + index + " of nine, a letter");
        }
        Twins.traceless(most, MISSING, d -> d.derived(1, -1, 1, -1), "place 1 of one");
        DialectDictionary desk = most.make();
        Checks.due(9, desk.derived(0, -1, -1, -1), "the number of forms");
        Checks.due(0, desk.derived(0, -1, 0, 0), "place 0");
        Checks.due(8, desk.derived(0, -1, 8, 0), "place 8");
        Checks.due(23, desk.derived(1, -1, 0, 0), "place 0 of one");
        Checks.refused(MISSING, () -> desk.derived(1, -1, 8, 0), "place 8 of one, behind another row of nine");
    }

    private static void lettersOfTheRow() {
        Checks.sentence("24: letter: the index of a letter of the form there, from 0, or -1 for the number of "
                + "its letters");
        Twins.Maker maker = () -> {
            DialectDictionary desk = Checks.with("abcdefgh");
            desk.addRule(7, -1, 0, 3);
            return desk;
        };
        for (int letter : new int[] {-2, 8, 9, Integer.MIN_VALUE, Integer.MAX_VALUE}) {
            Twins.traceless(maker, MISSING, d -> d.derived(0, -1, 0, letter), "letter " + letter + " of eight");
            Twins.traceless(maker, MISSING, d -> d.derived(0, -1, 1, letter), "letter " + letter + " of seven");
        }
        Twins.traceless(maker, MISSING, d -> d.derived(0, -1, 1, 7), "letter 7 of seven");
        DialectDictionary desk = maker.make();
        Checks.due(8, desk.derived(0, -1, 0, -1), "eight letters");
        Checks.due(7, desk.derived(0, -1, 1, -1), "seven letters");
        Checks.due(7, desk.derived(0, -1, 0, 7), "letter 7 of eight");
        Checks.due(6, desk.derived(0, -1, 1, 6), "letter 6 of seven");
        Checks.due(0, desk.derived(0, -1, 1, 0), "letter 0 of seven");
    }

    private static void letterDoesNotMatter() {
        Checks.sentence("24: it does not matter if index is -1");
        DialectDictionary desk = three();
        for (int letter : new int[] {-2, -1, 0, 1, 8, 99, Integer.MIN_VALUE, Integer.MAX_VALUE}) {
            Checks.due(4, desk.derived(0, -1, -1, letter), "letter " + letter);
        }
    }

    private static void placesOfBy() {
        Checks.sentence("25: index: the place in the row, from 1");
        Twins.Maker most = () -> Desks.rules(8, "a", "x");
        for (int index : new int[] {-2, -1, 0, 9, 10, Integer.MIN_VALUE, Integer.MAX_VALUE}) {
            Twins.traceless(most, MISSING, d -> d.by(0, -1, index), "place " + index + " of nine");
        }
        for (int index : new int[] {0, 1, 8}) {
            Twins.traceless(most, MISSING, d -> d.by(1, -1, index), "place " + index + " of one");
        }
        Checks.due(0, most.make().by(0, -1, 1), "place 1");
        Checks.due(7, most.make().by(0, -1, 8), "place 8");
        DialectDictionary last = Checks.with("a");
        for (int rule = 0; rule < 8; rule++) {
            last.addRule(rule == 7 ? 0 : 5, 1, 0, 0);
        }
        Checks.due(7, last.by(0, -1, 1), "the last rule alone");
        Checks.refused(MISSING, () -> last.by(0, -1, 2), "place 2 of two");
    }

    private static void comesFrom() {
        Checks.sentence("Derivations: A form comes from another one if it is a form of the derivation of that "
                + "one other than the first; the number of its place in the row, from 1, is its age");
        DialectDictionary desk = Desks.rules(8, "a", "b", "i", "x");
        Checks.due(1, desk.proves(0, -1, 1, -1), "the lowest place");
        Checks.due(8, desk.proves(0, -1, 2, -1), "the highest place");
        Checks.due(7, desk.proves(1, -1, 2, -1), "from b, whose row is shorter");
        Twins.Maker maker = () -> Desks.rules(8, "a", "b", "i", "x");
        Twins.traceless(maker, MISSING, d -> d.proves(2, -1, 0, -1), "the other way round");
        Twins.traceless(maker, MISSING, d -> d.proves(0, -1, 0, -1), "the first form of its own row");
        Twins.traceless(maker, MISSING, d -> d.proves(0, -1, 3, -1), "a form that is not in the row");
        Twins.traceless(maker, MISSING, d -> d.proves(3, -1, 3, -1), "a form that no rule changes");
    }

    private static void lowestAge() {
        Checks.sentence("Derivations: its age, the lowest one if it stands there several times");
        DialectDictionary desk = Checks.with("a", "b");
        for (int rule = 0; rule < 8; rule++) {
            desk.addRule(rule % 2, 1 - rule % 2, 0, 0);
        }
        Checks.due("a b a b a b a b a", Checks.rowOf(desk, 0, -1), "the row");
        Checks.due(1, desk.proves(0, -1, 1, -1), "b, four times");
        Checks.due(2, desk.proves(0, -1, 0, -1), "a, four times beside the first");
        Checks.due(2, desk.headword(0, 5), "both forms come from a, each counted once");
    }

    private static void comesFromItself() {
        Checks.sentence("Details: A form to which a derivation comes back comes from itself.");
        DialectDictionary desk = Checks.with("a");
        for (int rule = 0; rule < 7; rule++) {
            desk.addRule(rule, rule + 1, 0, 0);
        }
        Checks.refused(MISSING, () -> desk.proves(0, -1, 0, -1), "without the way back");
        Checks.due(0, desk.headword(0, 5), "nothing comes from it");
        desk.addRule(7, 0, 0, 0);
        Checks.due(8, desk.proves(0, -1, 0, -1), "at the last place");
        Checks.due(1, desk.headword(0, 5), "it comes from itself");
        Checks.due(0.0f, desk.changedShare(), "its result is no other form");
        Checks.due(1, desk.rule(7, 4), "but the rules change something");
    }

    private static void doesNotCome() {
        Checks.sentence("26: or the second form does not come from the first one");
        DialectDictionary letters = Checks.with("a", "ch");
        letters.addLetter('c', 'h', 0);
        Checks.add(letters, "ch");
        letters.addRule(1, 0, 0, 0);
        Checks.due(1, letters.proves(0, -1, 2, -1), "the letter ch comes from a");
        Checks.refused(MISSING, () -> letters.proves(0, -1, 1, -1), "the letters c and h do not");
        DialectDictionary longer = Checks.with("ab", "b", "bb");
        longer.addRule(0, -1, 0, 0);
        Checks.due(1, longer.proves(0, -1, 1, -1), "b comes from ab");
        Checks.refused(MISSING, () -> longer.proves(0, -1, 2, -1), "bb does not");
        Checks.refused(MISSING, () -> longer.proves(1, -1, 1, -1), "b does not come from itself");
    }
}
