import java.util.Random;

/** Promises 1 to 34 together: long runs of calls, each answer compared with that of the model. */
public final class ModelTest {
    private static final int RUNS = 1500;
    private static final int CALLS = 512;

    private final Random random;
    private final DialectDictionary desk = new DialectDictionary();
    private final Model model = new Model();
    private final int letters;
    private final boolean isRuleRun;
    private int left = CALLS;

    private ModelTest(int seed) {
        random = new Random(seed);
        letters = 1 + random.nextInt(5);
        isRuleRun = random.nextInt(3) == 0;
    }

    public static void main(String[] args) {
        for (int seed = 0; seed < RUNS; seed++) {
            new ModelTest(seed).run();
        }
        Checks.end("ModelTest");
    }

    private void run() {
        while (left > 0) {
            change();
            look();
        }
    }

    /** An object has 512 calls; what it answers later is free. */
    private void same(String call, Checks.Call of, Checks.Call due) {
        if (left > 0) {
            left--;
            Checks.due(Checks.outcome(due), Checks.outcome(of), call);
        }
    }

    private void text(String text) {
        for (char sign : text.toCharArray()) {
            same("feed " + sign, () -> desk.feed(sign), () -> model.feed(sign));
        }
    }

    /** A number among the first ones of a list, at times one that is not there. */
    private int among(int what) {
        int size = model.account(what);
        return random.nextInt(10) == 0 || size == 0 ? random.nextInt(size + 4) - 2 : random.nextInt(size);
    }

    private String form() {
        StringBuilder text = new StringBuilder();
        int length = random.nextInt(25) == 0 ? random.nextInt(14) : 1 + random.nextInt(3);
        for (int n = 0; n < length; n++) {
            text.append("aebcs".charAt(random.nextInt(letters)));
        }
        if (random.nextInt(40) == 0) {
            text.append((char) random.nextInt(256));
        }
        return text.toString();
    }

    private String commands() {
        StringBuilder text = new StringBuilder();
        int count = 1 + random.nextInt(4);
        for (int n = 0; n < count; n++) {
            text.append(n == 0 ? "" : ";").append(command());
        }
        if (random.nextInt(6) == 0) {
            int at = random.nextInt(text.length());
            text.setCharAt(at, "+~>&;0a1 Z".charAt(random.nextInt(10)));
        }
        return text.substring(0, random.nextInt(12) == 0 ? random.nextInt(text.length()) : text.length());
    }

    private String command() {
        switch (random.nextInt(6)) {
            case 0:
            case 1:
                return "+" + form();
            case 2:
            case 3:
                return Math.abs(among(0)) + "~" + form();
            case 4:
                return Math.abs(among(0)) + ">" + Math.abs(among(0));
            default:
                return Math.abs(among(0)) + "&" + Math.abs(among(0));
        }
    }

    private void change() {
        int kind = random.nextInt(24);
        if (kind < 12) {
            changeHeadwords(kind);
        } else if (kind < 18) {
            changeRulesAndAlphabet(isRuleRun ? 12 + random.nextInt(3) : kind);
        } else if (kind < 22) {
            String text = commands();
            text(text);
            same("perform " + text, desk::perform, model::perform);
        } else {
            changeTime();
        }
    }

    private void changeHeadwords(int kind) {
        int headword = among(0);
        int other = among(0);
        int variant = random.nextInt(7) - 1;
        String form = form();
        if (kind < 7) {
            text(form);
        }
        switch (kind) {
            case 0:
            case 1:
                same("add " + form, desk::add, model::add);
                break;
            case 2:
            case 3:
            case 4:
                same("addVariant " + form, () -> desk.addVariant(headword), () -> model.addVariant(headword));
                break;
            case 5:
                same("rename " + form, () -> desk.rename(headword), () -> model.rename(headword));
                break;
            case 6:
                same("find " + form, desk::find, model::find);
                break;
            case 7:
                same("promote", () -> desk.promote(headword, variant), () -> model.promote(headword, variant));
                break;
            case 8:
                takeAway(headword, variant);
                break;
            case 9:
                same("join", () -> desk.join(headword, other), () -> model.join(headword, other));
                break;
            default:
                int target = random.nextInt(8) == 0 ? -1 : other;
                same("refer", () -> desk.refer(headword, target), () -> model.refer(headword, target));
                break;
        }
    }

    private void takeAway(int headword, int variant) {
        if (random.nextInt(3) == 0) {
            same("remove", () -> desk.remove(headword), () -> model.remove(headword));
        } else {
            same("removeVariant", () -> desk.removeVariant(headword, variant),
                    () -> model.removeVariant(headword, variant));
        }
    }

    private void changeRulesAndAlphabet(int kind) {
        int from = letterPlace();
        int to = random.nextInt(3) == 0 ? -1 : letterPlace();
        int rule = among(3);
        int other = among(3);
        char first = "aecshA".charAt(random.nextInt(random.nextInt(9) == 0 ? 6 : 5));
        char second = "aecshB".charAt(random.nextInt(random.nextInt(9) == 0 ? 6 : 5));
        switch (kind) {
            case 12:
            case 13:
                int ahead = condition();
                int behind = condition();
                same("addRule", () -> desk.addRule(from, to, ahead, behind),
                        () -> model.addRule(from, to, ahead, behind));
                break;
            case 14:
                same("exchange", () -> desk.exchange(rule, other), () -> model.exchange(rule, other));
                break;
            case 15:
                same("removeRule", () -> desk.removeRule(rule), () -> model.removeRule(rule));
                break;
            case 16:
                int place = among(4) + random.nextInt(2);
                same("addLetter " + first + second, () -> desk.addLetter(first, second, place),
                        () -> model.addLetter(first, second, place));
                break;
            default:
                int target = among(4);
                same("moveLetter", () -> desk.moveLetter(from, target), () -> model.moveLetter(from, target));
                break;
        }
    }

    private int condition() {
        return random.nextInt(20) == 0 ? random.nextInt(8) - 2 : random.nextInt(2) * random.nextInt(4);
    }

    private int letterPlace() {
        return random.nextInt(4) == 0 ? among(4) : random.nextInt(20);
    }

    private void changeTime() {
        switch (random.nextInt(8)) {
            case 0:
                same("save", desk::save, model::save);
                break;
            case 1:
                same("restore", desk::restore, model::restore);
                break;
            default:
                same("undo", desk::undo, model::undo);
                break;
        }
    }

    private void look() {
        int headword = among(0);
        int other = among(0);
        int form = random.nextInt(6) - 2;
        int otherForm = random.nextInt(6) - 2;
        int what = random.nextInt(10) - 1;
        int index = random.nextInt(6) - 2;
        int letter = random.nextInt(6) - 2;
        boolean isSecond = random.nextBoolean();
        switch (random.nextInt(16)) {
            case 0:
                int place = among(4);
                same("letter", () -> desk.letter(place, isSecond), () -> model.letter(place, isSecond));
                break;
            case 1:
            case 2:
                same("headword " + what, () -> desk.headword(headword, what), () -> model.headword(headword, what));
                break;
            case 3:
                same("letterOf", () -> desk.letterOf(headword, form, letter),
                        () -> model.letterOf(headword, form, letter));
                break;
            case 4:
                same("ordered", () -> desk.ordered(other), () -> model.ordered(other));
                break;
            case 5:
                same("compare", () -> desk.compare(headword, form, other, otherForm),
                        () -> model.compare(headword, form, other, otherForm));
                break;
            case 6:
                same("steps", () -> desk.steps(headword, other), () -> model.steps(headword, other));
                break;
            case 7:
                int rule = among(3);
                same("rule " + what, () -> desk.rule(rule, what), () -> model.rule(rule, what));
                break;
            case 8:
            case 9:
                same("derived", () -> desk.derived(headword, form, index, letter),
                        () -> model.derived(headword, form, index, letter));
                break;
            case 10:
                same("by", () -> desk.by(headword, form, index), () -> model.by(headword, form, index));
                break;
            case 11:
                same("proves", () -> desk.proves(headword, form, other, otherForm),
                        () -> model.proves(headword, form, other, otherForm));
                break;
            case 12:
                same("report", () -> desk.report(index, isSecond), () -> model.report(index, isSecond));
                break;
            case 13:
                same("account " + what, () -> desk.account(what), () -> model.account(what));
                break;
            case 14:
                same("meanLength", desk::meanLength, model::meanLength);
                break;
            default:
                same("changedShare", desk::changedShare, model::changedShare);
                break;
        }
    }
}
