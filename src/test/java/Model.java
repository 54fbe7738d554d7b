import java.util.ArrayDeque;
import java.util.ArrayList;
import java.util.Deque;
import java.util.HashSet;
import java.util.List;
import java.util.NoSuchElementException;
import java.util.Set;
import java.util.regex.Matcher;
import java.util.regex.Pattern;

/** The document told a second time, with lists of texts and without regard to room, to compare the class with. */
final class Model {
    /** A refusal, with the levels of its report; without any, the earlier report stays. */
    private static final class Refusal extends RuntimeException {
        private static final long serialVersionUID = 1L;
        final transient List<int[]> levels;

        Refusal(List<int[]> levels) {
            this.levels = levels;
        }
    }

    private static final class Entry {
        final List<List<String>> forms = new ArrayList<>();
        Entry reference;
    }

    private record Rule(String from, String to, int ahead, int behind) {
    }

    private static final class State {
        final List<String> alphabet = new ArrayList<>();
        final List<Entry> entries = new ArrayList<>();
        final List<Rule> rules = new ArrayList<>();

        State copy() {
            State copy = new State();
            copy.alphabet.addAll(alphabet);
            copy.rules.addAll(rules);
            for (Entry entry : entries) {
                Entry other = new Entry();
                other.forms.addAll(entry.forms);
                copy.entries.add(other);
            }
            for (int n = 0; n < entries.size(); n++) {
                int reference = entries.indexOf(entries.get(n).reference);
                copy.entries.get(n).reference = reference < 0 ? null : copy.entries.get(reference);
            }
            return copy;
        }
    }

    private State state = new State();
    private State saved;
    private final Deque<State> past = new ArrayDeque<>();
    private final StringBuilder buffer = new StringBuilder();
    private List<int[]> report = List.of();

    Model() {
        for (char sign = 'a'; sign <= 'z'; sign++) {
            state.alphabet.add(String.valueOf(sign));
        }
    }

    int feed(char sign) {
        if (buffer.length() == 60) {
            throw new IllegalStateException();
        }
        return buffer.append(sign).length();
    }

    int addLetter(char first, char second, int place) {
        String letter = "" + first + second;
        if (!letter.matches("[a-z][a-z]") || state.alphabet.contains(letter)) {
            throw new IllegalArgumentException();
        }
        if (place < 0 || place > state.alphabet.size()) {
            throw new IndexOutOfBoundsException();
        }
        if (state.alphabet.stream().filter(l -> l.length() == 2).count() == 10) {
            throw new IllegalStateException();
        }
        change();
        state.alphabet.add(place, letter);
        return state.alphabet.size();
    }

    int moveLetter(int from, int to) {
        bound(from, state.alphabet);
        bound(to, state.alphabet);
        change();
        List<String> before = new ArrayList<>(state.alphabet);
        String moved = state.alphabet.remove(from);
        state.alphabet.add(to, moved);
        int different = 0;
        for (String letter : before) {
            if (!letter.equals(moved) && before.indexOf(letter) != state.alphabet.indexOf(letter)) {
                different++;
            }
        }
        return different;
    }

    char letter(int place, boolean isSecond) {
        bound(place, state.alphabet);
        return (state.alphabet.get(place) + " ").charAt(isSecond ? 1 : 0);
    }

    int add() {
        String text = take();
        return doing(() -> make(text));
    }

    int addVariant(int headword) {
        bound(headword, state.entries);
        String text = take();
        return doing(() -> vary(headword, text));
    }

    int rename(int headword) {
        bound(headword, state.entries);
        String text = take();
        return doing(() -> {
            List<String> form = newForm(text, 5, headword);
            return state.entries.get(headword).forms.set(0, form).size();
        });
    }

    int promote(int headword, int variant) {
        bound(headword, state.entries);
        variant(headword, variant);
        change();
        List<List<String>> forms = state.entries.get(headword).forms;
        forms.set(0, forms.set(variant + 1, forms.get(0)));
        return forms.get(0).size();
    }

    int removeVariant(int headword, int variant) {
        bound(headword, state.entries);
        variant(headword, variant);
        change();
        state.entries.get(headword).forms.remove(variant + 1);
        return state.entries.get(headword).forms.size() - 1;
    }

    int remove(int headword) {
        bound(headword, state.entries);
        change();
        int before = account(2);
        Entry gone = state.entries.remove(headword);
        for (Entry entry : state.entries) {
            if (entry.reference == gone) {
                entry.reference = null;
            }
        }
        return before - account(2);
    }

    int join(int headword, int other) {
        bound(headword, state.entries);
        bound(other, state.entries);
        return doing(() -> unite(headword, other));
    }

    int find() {
        List<String> letters = divide(take());
        if (letters != null && letters.size() <= 8) {
            for (int n = 0; n < state.entries.size(); n++) {
                if (state.entries.get(n).forms.contains(letters)) {
                    return n;
                }
            }
        }
        throw new NoSuchElementException();
    }

    int headword(int headword, int what) {
        bound(headword, state.entries);
        Entry entry = state.entries.get(headword);
        switch (what) {
            case 0:
                return entry.forms.size() - 1;
            case 1:
                return state.entries.indexOf(entry.reference);
            case 2:
                return state.entries.indexOf(end(entry));
            case 3:
                return (int) state.entries.stream().filter(e -> e.reference == entry).count();
            case 4:
                return inOrder().indexOf(entry);
            case 5:
                List<List<String>> row = row(entry.forms.get(0), null);
                return (int) state.entries.stream().flatMap(e -> e.forms.stream())
                        .filter(f -> row.subList(1, row.size()).contains(f)).count();
            case 6:
                return entry.forms.get(0).size();
            default:
                throw new IllegalArgumentException();
        }
    }

    int letterOf(int headword, int form, int index) {
        bound(headword, state.entries);
        return placeIn(form(headword, form), index);
    }

    int ordered(int place) {
        missing(place, state.entries);
        return state.entries.indexOf(inOrder().get(place));
    }

    int compare(int headword, int form, int other, int otherForm) {
        bound(headword, state.entries);
        bound(other, state.entries);
        return Integer.signum(order(form(headword, form), form(other, otherForm)));
    }

    int refer(int headword, int other) {
        bound(headword, state.entries);
        if (other != -1) {
            bound(other, state.entries);
        }
        return doing(() -> point(headword, other));
    }

    int steps(int headword, int other) {
        bound(headword, state.entries);
        bound(other, state.entries);
        int steps = 0;
        for (Entry at = state.entries.get(headword); at != null; at = at.reference) {
            if (at == state.entries.get(other)) {
                return steps;
            }
            steps++;
        }
        throw new NoSuchElementException();
    }

    int addRule(int from, int to, int ahead, int behind) {
        bound(from, state.alphabet);
        if (to != -1) {
            bound(to, state.alphabet);
        }
        if (ahead < 0 || ahead > 3 || behind < 0 || behind > 3) {
            throw new IllegalArgumentException();
        }
        if (state.rules.size() == 8) {
            throw new IllegalStateException();
        }
        change();
        state.rules.add(new Rule(state.alphabet.get(from), to == -1 ? null : state.alphabet.get(to), ahead, behind));
        return state.rules.size() - 1;
    }

    int exchange(int rule, int other) {
        bound(rule, state.rules);
        bound(other, state.rules);
        change();
        List<List<String>> before = results();
        java.util.Collections.swap(state.rules, rule, other);
        List<List<String>> after = results();
        int different = 0;
        for (int n = 0; n < before.size(); n++) {
            different += before.get(n).equals(after.get(n)) ? 0 : 1;
        }
        return different;
    }

    int removeRule(int rule) {
        bound(rule, state.rules);
        change();
        state.rules.remove(rule);
        return state.rules.size();
    }

    int rule(int rule, int what) {
        bound(rule, state.rules);
        Rule told = state.rules.get(rule);
        switch (what) {
            case 0:
                return state.alphabet.indexOf(told.from());
            case 1:
                return state.alphabet.indexOf(told.to());
            case 2:
                return told.ahead();
            case 3:
                return told.behind();
            case 4:
                int forms = 0;
                for (Entry entry : state.entries) {
                    List<Integer> by = new ArrayList<>();
                    row(entry.forms.get(0), by);
                    forms += by.contains(rule) ? 1 : 0;
                }
                return forms;
            default:
                throw new IllegalArgumentException();
        }
    }

    int derived(int headword, int form, int index, int letter) {
        bound(headword, state.entries);
        List<List<String>> row = row(form(headword, form), null);
        if (index == -1) {
            return row.size();
        }
        missing(index, row);
        return letter == -1 ? row.get(index).size() : placeIn(row.get(index), letter);
    }

    int by(int headword, int form, int index) {
        bound(headword, state.entries);
        List<Integer> by = new ArrayList<>();
        row(form(headword, form), by);
        missing(index - 1, by);
        return by.get(index - 1);
    }

    int proves(int headword, int form, int other, int otherForm) {
        bound(headword, state.entries);
        bound(other, state.entries);
        List<List<String>> row = row(form(headword, form), null);
        row.set(0, List.of());
        int age = row.indexOf(form(other, otherForm));
        if (age < 0) {
            throw new NoSuchElementException();
        }
        return age;
    }

    int report(int level, boolean isDetail) {
        missing(level, report);
        return report.get(level)[isDetail ? 1 : 0];
    }

    int account(int what) {
        switch (what) {
            case 0:
                return state.entries.size();
            case 1:
                return state.entries.stream().mapToInt(e -> e.forms.size()).sum();
            case 2:
                return (int) state.entries.stream().filter(e -> e.reference != null).count();
            case 3:
                return state.rules.size();
            case 4:
                return state.alphabet.size();
            case 5:
                return state.entries.stream().flatMap(e -> e.forms.stream()).mapToInt(List::size).sum();
            case 6:
                return (int) state.entries.stream().filter(e -> e.reference == null
                        && state.entries.stream().noneMatch(o -> o.reference == e)).count();
            case 7:
                Set<List<String>> different = new HashSet<>(results());
                return different.size();
            case 8:
                return buffer.length();
            default:
                throw new IllegalArgumentException();
        }
    }

    double meanLength() {
        if (state.entries.isEmpty()) {
            throw new ArithmeticException();
        }
        return (double) account(5) / account(1);
    }

    float changedShare() {
        if (state.entries.isEmpty()) {
            throw new ArithmeticException();
        }
        List<List<String>> results = results();
        int changed = 0;
        for (int n = 0; n < results.size(); n++) {
            changed += results.get(n).equals(state.entries.get(n).forms.get(0)) ? 0 : 1;
        }
        return (float) changed / state.entries.size();
    }

    int perform() {
        String text = take();
        Pattern whole = Pattern.compile("(\\+[a-z]+|\\d\\d?~[a-z]+|\\d\\d?[>&]\\d\\d?)"
                + "(;(\\+[a-z]+|\\d\\d?~[a-z]+|\\d\\d?[>&]\\d\\d?))*");
        Matcher matcher = whole.matcher(text);
        if (!matcher.matches()) {
            return -100 - errorPosition(text, whole);
        }
        String[] parts = text.split(";");
        return doing(() -> {
            for (int n = 0; n < parts.length; n++) {
                try {
                    command(parts[n]);
                } catch (Refusal refusal) {
                    List<int[]> levels = new ArrayList<>(refusal.levels);
                    if (!levels.isEmpty()) {
                        levels.add(0, new int[] {9, n});
                    }
                    throw new Refusal(levels);
                }
            }
            return parts.length;
        });
    }

    int undo() {
        if (past.isEmpty()) {
            throw new IllegalStateException();
        }
        state = past.removeLast();
        return past.size();
    }

    int save() {
        saved = state.copy();
        return state.entries.size();
    }

    int restore() {
        if (saved == null) {
            throw new IllegalStateException();
        }
        state = saved.copy();
        past.clear();
        return state.entries.size();
    }

    /** The longest beginning that some text of the language continues; tried with every end that a command needs. */
    private static int errorPosition(String text, Pattern whole) {
        int position = 0;
        for (int length = 1; length <= text.length(); length++) {
            String start = text.substring(0, length);
            for (String end : new String[] {"", "a", "+a", "~a", "0", ">0"}) {
                if (whole.matcher(start + end).matches()) {
                    position = length;
                }
            }
        }
        return position;
    }

    private void command(String part) {
        int sign = 0;
        while ("+~>&".indexOf(part.charAt(sign)) < 0) {
            sign++;
        }
        String rest = part.substring(sign + 1);
        if (sign == 0) {
            make(rest);
            return;
        }
        int headword = known(part.substring(0, sign));
        if (part.charAt(sign) == '~') {
            vary(headword, rest);
        } else if (part.charAt(sign) == '>') {
            point(headword, known(rest));
        } else {
            unite(headword, known(rest));
        }
    }

    private int known(String number) {
        int headword = Integer.parseInt(number);
        if (headword >= state.entries.size()) {
            throw new Refusal(List.of());
        }
        return headword;
    }

    private interface Doing {
        int run();
    }

    private int doing(Doing doing) {
        State before = state.copy();
        try {
            int answer = doing.run();
            keep(before);
            return answer;
        } catch (Refusal refusal) {
            state = before;
            report = refusal.levels.isEmpty() ? report : refusal.levels;
            throw new UnsupportedOperationException();
        }
    }

    private void change() {
        keep(state.copy());
    }

    private void keep(State before) {
        past.addLast(before);
        if (past.size() > 8) {
            past.removeFirst();
        }
    }

    private static Refusal refusal(int what, int headword, int reason, int detail) {
        return new Refusal(List.of(new int[] {what, headword}, new int[] {reason, detail}));
    }

    private int make(String text) {
        List<String> form = newForm(text, 1, -1);
        room(1, -1);
        Entry entry = new Entry();
        entry.forms.add(form);
        state.entries.add(entry);
        return state.entries.size() - 1;
    }

    private int vary(int headword, String text) {
        List<String> form = newForm(text, 2, headword);
        room(2, headword);
        List<List<String>> forms = state.entries.get(headword).forms;
        if (forms.size() == 6) {
            throw refusal(2, headword, 4, headword);
        }
        forms.add(form);
        return forms.size() - 1;
    }

    private List<String> newForm(String text, int what, int headword) {
        List<String> letters = divide(text);
        if (letters == null || letters.size() > 8) {
            throw refusal(what, headword, 1, letters == null ? 0 : letters.size());
        }
        for (int n = 0; n < state.entries.size(); n++) {
            if (state.entries.get(n).forms.contains(letters)) {
                throw refusal(what, headword, 2, n);
            }
        }
        return letters;
    }

    private void room(int what, int headword) {
        boolean hasMostHeadwords = state.entries.size() == 20;
        if (hasMostHeadwords || account(1) == 60) {
            throw refusal(what, headword, 3, hasMostHeadwords ? 20 : 60);
        }
    }

    private int point(int headword, int other) {
        Entry entry = state.entries.get(headword);
        Entry target = other == -1 ? null : state.entries.get(other);
        for (Entry at = target; at != null; at = at.reference) {
            if (at == entry) {
                throw refusal(3, headword, 5, state.entries.indexOf(end(target)));
            }
        }
        int earlier = state.entries.indexOf(entry.reference);
        entry.reference = target;
        return earlier;
    }

    /** Tries the references first and looks for a circle then. */
    private int unite(int headword, int other) {
        Entry entry = state.entries.get(headword);
        Entry joined = state.entries.get(other);
        if (entry == joined) {
            throw refusal(4, headword, 6, headword);
        }
        int variants = entry.forms.size() + joined.forms.size() - 1;
        if (variants > 5) {
            throw refusal(4, headword, 7, variants);
        }
        int end = state.entries.indexOf(end(entry));
        for (Entry referrer : state.entries) {
            if (referrer.reference == joined) {
                referrer.reference = referrer == entry ? null : entry;
            }
        }
        joined.reference = null;
        Entry at = entry.reference;
        for (int step = 0; step < 40 && at != null; step++) {
            if (at == entry) {
                throw refusal(4, headword, 5, end);
            }
            at = at.reference;
        }
        entry.forms.addAll(joined.forms);
        state.entries.remove(joined);
        return entry.forms.size() - 1;
    }

    private String take() {
        String text = buffer.toString();
        buffer.setLength(0);
        return text;
    }

    private List<String> divide(String text) {
        if (!text.matches("[a-z]+")) {
            return null;
        }
        List<String> letters = new ArrayList<>();
        String rest = text;
        while (!rest.isEmpty()) {
            int size = rest.length() > 1 && state.alphabet.contains(rest.substring(0, 2)) ? 2 : 1;
            letters.add(rest.substring(0, size));
            rest = rest.substring(size);
        }
        return letters;
    }

    private int order(List<String> form, List<String> other) {
        for (int n = 0; n < Math.min(form.size(), other.size()); n++) {
            if (!form.get(n).equals(other.get(n))) {
                return state.alphabet.indexOf(form.get(n)) - state.alphabet.indexOf(other.get(n));
            }
        }
        return form.size() - other.size();
    }

    private List<Entry> inOrder() {
        List<Entry> sorted = new ArrayList<>(state.entries);
        sorted.sort((a, b) -> order(a.forms.get(0), b.forms.get(0)));
        return sorted;
    }

    private static Entry end(Entry entry) {
        Entry at = entry;
        while (at.reference != null) {
            at = at.reference;
        }
        return at;
    }

    private List<List<String>> results() {
        List<List<String>> results = new ArrayList<>();
        for (Entry entry : state.entries) {
            List<List<String>> row = row(entry.forms.get(0), null);
            results.add(row.get(row.size() - 1));
        }
        return results;
    }

    private List<List<String>> row(List<String> form, List<Integer> by) {
        List<List<String>> row = new ArrayList<>();
        row.add(form);
        for (int n = 0; n < state.rules.size(); n++) {
            List<String> before = row.get(row.size() - 1);
            List<String> after = ruled(state.rules.get(n), before);
            if (!after.isEmpty() && !after.equals(before)) {
                row.add(after);
                if (by != null) {
                    by.add(n);
                }
            }
        }
        return row;
    }

    private static List<String> ruled(Rule rule, List<String> form) {
        List<String> after = new ArrayList<>();
        for (int n = 0; n < form.size(); n++) {
            String ahead = n == 0 ? null : form.get(n - 1);
            String behind = n == form.size() - 1 ? null : form.get(n + 1);
            boolean isHit = form.get(n).equals(rule.from()) && holds(rule.ahead(), ahead)
                    && holds(rule.behind(), behind);
            if (!isHit) {
                after.add(form.get(n));
            } else if (rule.to() != null) {
                after.add(rule.to());
            }
        }
        return after;
    }

    private static boolean holds(int condition, String neighbour) {
        boolean isVowel = neighbour != null && neighbour.matches("[aeiou].?");
        return condition == 0 || condition == 1 && isVowel || condition == 2 && neighbour != null && !isVowel
                || condition == 3 && neighbour == null;
    }

    private List<String> form(int headword, int form) {
        missing(form + 1, state.entries.get(headword).forms);
        return state.entries.get(headword).forms.get(form + 1);
    }

    private void variant(int headword, int variant) {
        if (variant < 0 || variant >= state.entries.get(headword).forms.size() - 1) {
            throw new NoSuchElementException();
        }
    }

    private int placeIn(List<String> form, int index) {
        missing(index, form);
        return state.alphabet.indexOf(form.get(index));
    }

    private static void bound(int index, List<?> list) {
        if (index < 0 || index >= list.size()) {
            throw new IndexOutOfBoundsException();
        }
    }

    private static void missing(int index, List<?> list) {
        if (index < 0 || index >= list.size()) {
            throw new NoSuchElementException();
        }
    }
}
