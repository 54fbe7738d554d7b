import java.util.NoSuchElementException;

/** A dictionary desk for a dialect. The document (DOC.md) says what each call promises. */
public final class DialectDictionary {
    /** Stands for no letter, no headword and no place. */
    private static final int NONE = -1;

    private static final int MOST_SIGNS = 60;
    private static final int SINGLE_LETTERS = 26;
    private static final int MOST_PLACES = 36;
    private static final int MOST_LETTERS = 8;
    private static final int MOST_HEADWORDS = 20;
    private static final int MOST_FORMS = 60;
    private static final int MOST_VARIANTS = 5;
    private static final int MOST_RULES = 8;
    private static final int MOST_CHANGES = 8;

    private static final int MAKING = 1;
    private static final int ADDING = 2;
    private static final int REFERRING = 3;
    private static final int JOINING = 4;
    private static final int RENAMING = 5;
    private static final int COMMAND = 9;

    private static final int NO_FORM = 1;
    private static final int FORM_IS_TAKEN = 2;
    private static final int DICTIONARY_IS_FULL = 3;
    private static final int HEADWORD_IS_FULL = 4;
    private static final int CIRCLE = 5;
    private static final int JOINED_TO_ITSELF = 6;
    private static final int TOO_MANY_BY_JOINING = 7;

    private static final int SYNTAX_ERROR = -100;

    private final Input input;
    private final Desk desk;
    private final Desk saved;
    private final History history;
    private final Report report;
    private final Commands commands;
    private final Derivation derivation;
    private final long[] results;
    private boolean isSaved;

    public DialectDictionary() {
        input = new Input();
        desk = new Desk();
        saved = new Desk();
        history = new History();
        report = new Report();
        commands = new Commands();
        derivation = new Derivation();
        results = new long[MOST_HEADWORDS];
        isSaved = false;
    }

    // ---- input, alphabet

    public int feed(char letter) throws IllegalStateException {
        if (input.isFull()) {
            throw new IllegalStateException("the input buffer is full");
        }
        input.put(letter);
        return input.count();
    }

    public int addLetter(char first, char second, int place)
            throws IllegalArgumentException, IndexOutOfBoundsException, IllegalStateException {
        Alphabet alphabet = desk.alphabet();
        if (!isPlain(first) || !isPlain(second) || alphabet.letterOfSigns(first, second) != NONE) {
            throw new IllegalArgumentException("no new letter of two characters from a to z");
        }
        if (place < 0 || place > alphabet.size()) {
            throw new IndexOutOfBoundsException("no such place for a letter");
        }
        if (alphabet.isFull()) {
            throw new IllegalStateException("all letters of two characters were added");
        }
        remember();
        alphabet.insert(first, second, place);
        return alphabet.size();
    }

    public int moveLetter(int from, int to) throws IndexOutOfBoundsException {
        requirePlace(from);
        requirePlace(to);
        remember();
        desk.alphabet().shift(from, to);
        return Math.abs(from - to);
    }

    public char letter(int place, boolean isSecond) throws IndexOutOfBoundsException {
        requirePlace(place);
        Alphabet alphabet = desk.alphabet();
        int letter = alphabet.letterAt(place);
        return isSecond ? alphabet.secondOf(letter) : alphabet.firstOf(letter);
    }

    // ---- headwords

    public int add() throws UnsupportedOperationException {
        input.divideAll(desk.alphabet());
        input.clear();
        history.prepare(desk);
        if (desk.lexicon().isMakingRefused(input, report)) {
            throw new UnsupportedOperationException("making the headword is refused");
        }
        history.keep();
        return desk.lexicon().count() - 1;
    }

    public int addVariant(int headword) throws IndexOutOfBoundsException, UnsupportedOperationException {
        requireHeadword(headword);
        input.divideAll(desk.alphabet());
        input.clear();
        history.prepare(desk);
        if (desk.lexicon().isAddingRefused(headword, input, report)) {
            throw new UnsupportedOperationException("adding the variant is refused");
        }
        history.keep();
        return entry(headword).variants();
    }

    public int rename(int headword) throws IndexOutOfBoundsException, UnsupportedOperationException {
        requireHeadword(headword);
        input.divideAll(desk.alphabet());
        input.clear();
        history.prepare(desk);
        int earlierLength = Forms.length(entry(headword).mainForm());
        if (desk.lexicon().isRenamingRefused(headword, input, report)) {
            throw new UnsupportedOperationException("renaming the headword is refused");
        }
        history.keep();
        return earlierLength;
    }

    public int promote(int headword, int variant) throws IndexOutOfBoundsException, NoSuchElementException {
        requireHeadword(headword);
        requireVariant(headword, variant);
        remember();
        entry(headword).swapMainForm(variant);
        return Forms.length(entry(headword).mainForm());
    }

    public int removeVariant(int headword, int variant) throws IndexOutOfBoundsException, NoSuchElementException {
        requireHeadword(headword);
        requireVariant(headword, variant);
        remember();
        entry(headword).dropVariant(variant);
        return entry(headword).variants();
    }

    public int remove(int headword) throws IndexOutOfBoundsException {
        requireHeadword(headword);
        remember();
        return desk.lexicon().drop(headword);
    }

    public int join(int headword, int other) throws IndexOutOfBoundsException, UnsupportedOperationException {
        requireHeadword(headword);
        requireHeadword(other);
        history.prepare(desk);
        // Counted ahead of it, for by joining the headword's own number may decrease.
        int variants = entry(headword).variants() + entry(other).formCount();
        if (desk.lexicon().isJoiningRefused(headword, other, report)) {
            throw new UnsupportedOperationException("joining the headwords is refused");
        }
        history.keep();
        return variants;
    }

    public int find() throws NoSuchElementException {
        input.divideAll(desk.alphabet());
        input.clear();
        int owner = input.isForm() ? desk.lexicon().ownerOf(input.form()) : NONE;
        if (owner == NONE) {
            throw new NoSuchElementException("no headword has this form");
        }
        return owner;
    }

    public int headword(int headword, int what) throws IndexOutOfBoundsException, IllegalArgumentException {
        requireHeadword(headword);
        Lexicon lexicon = desk.lexicon();
        switch (what) {
            case 0:
                return entry(headword).variants();
            case 1:
                return entry(headword).reference();
            case 2:
                return lexicon.endOf(headword);
            case 3:
                return lexicon.referrersOf(headword);
            case 4:
                return lexicon.placeInOrder(headword, desk.alphabet());
            case 5:
                return formsThatComeFromMainFormOf(headword);
            case 6:
                return Forms.length(entry(headword).mainForm());
            default:
                throw new IllegalArgumentException("a headword has no such number");
        }
    }

    public int letterOf(int headword, int form, int index) throws IndexOutOfBoundsException, NoSuchElementException {
        requireHeadword(headword);
        requireForm(headword, form);
        return placeOfLetterIn(entry(headword).formAt(form), index);
    }

    public int ordered(int place) throws NoSuchElementException {
        int headword = desk.lexicon().atPlaceInOrder(place, desk.alphabet());
        if (headword == NONE) {
            throw new NoSuchElementException("no such place in the order");
        }
        return headword;
    }

    public int compare(int headword, int form, int other, int otherForm)
            throws IndexOutOfBoundsException, NoSuchElementException {
        requireHeadword(headword);
        requireHeadword(other);
        requireForm(headword, form);
        requireForm(other, otherForm);
        return desk.alphabet().order(entry(headword).formAt(form), entry(other).formAt(otherForm));
    }

    // ---- references

    public int refer(int headword, int other) throws IndexOutOfBoundsException, UnsupportedOperationException {
        requireHeadword(headword);
        if (other != NONE) {
            requireHeadword(other);
        }
        history.prepare(desk);
        int earlier = entry(headword).reference();
        if (desk.lexicon().isReferringRefused(headword, other, report)) {
            throw new UnsupportedOperationException("the reference is refused");
        }
        history.keep();
        return earlier;
    }

    public int steps(int headword, int other) throws IndexOutOfBoundsException, NoSuchElementException {
        requireHeadword(headword);
        requireHeadword(other);
        int steps = desk.lexicon().stepsBetween(headword, other);
        if (steps == NONE) {
            throw new NoSuchElementException("one does not arrive at the other headword");
        }
        return steps;
    }

    // ---- rules and derivations

    public int addRule(int from, int to, int ahead, int behind)
            throws IndexOutOfBoundsException, IllegalArgumentException, IllegalStateException {
        requirePlace(from);
        if (to != NONE) {
            requirePlace(to);
        }
        if (!Rules.isCondition(ahead) || !Rules.isCondition(behind)) {
            throw new IllegalArgumentException("no such condition");
        }
        if (desk.rules().isFull()) {
            throw new IllegalStateException("there are all rules that can be");
        }
        remember();
        Alphabet alphabet = desk.alphabet();
        int replacement = to == NONE ? NONE : alphabet.letterAt(to);
        desk.rules().append(alphabet.letterAt(from), replacement, ahead, behind);
        return desk.rules().count() - 1;
    }

    public int exchange(int rule, int other) throws IndexOutOfBoundsException {
        requireRule(rule);
        requireRule(other);
        remember();
        int headwords = desk.lexicon().count();
        for (int headword = 0; headword < headwords; headword++) {
            results[headword] = derivation.derive(entry(headword).mainForm(), desk);
        }
        desk.rules().swap(rule, other);
        int different = 0;
        for (int headword = 0; headword < headwords; headword++) {
            if (derivation.derive(entry(headword).mainForm(), desk) != results[headword]) {
                different++;
            }
        }
        return different;
    }

    public int removeRule(int rule) throws IndexOutOfBoundsException {
        requireRule(rule);
        remember();
        desk.rules().drop(rule);
        return desk.rules().count();
    }

    public int rule(int rule, int what) throws IndexOutOfBoundsException, IllegalArgumentException {
        requireRule(rule);
        Rules rules = desk.rules();
        switch (what) {
            case 0:
                return desk.alphabet().placeOf(rules.from(rule));
            case 1:
                return desk.alphabet().placeOf(rules.to(rule));
            case 2:
                return rules.ahead(rule);
            case 3:
                return rules.behind(rule);
            case 4:
                return mainFormsChangedBy(rule);
            default:
                throw new IllegalArgumentException("a rule has no such number");
        }
    }

    public int derived(int headword, int form, int index, int letter)
            throws IndexOutOfBoundsException, NoSuchElementException {
        requireHeadword(headword);
        requireForm(headword, form);
        derivation.derive(entry(headword).formAt(form), desk);
        if (index == NONE) {
            return derivation.count();
        }
        if (!derivation.hasPlace(index)) {
            throw new NoSuchElementException("no such place in the derivation");
        }
        long there = derivation.formAt(index);
        return letter == NONE ? Forms.length(there) : placeOfLetterIn(there, letter);
    }

    public int by(int headword, int form, int index) throws IndexOutOfBoundsException, NoSuchElementException {
        requireHeadword(headword);
        requireForm(headword, form);
        derivation.derive(entry(headword).formAt(form), desk);
        if (index == 0 || !derivation.hasPlace(index)) {
            throw new NoSuchElementException("no such place behind the first in the derivation");
        }
        return derivation.ruleAt(index);
    }

    public int proves(int headword, int form, int other, int otherForm)
            throws IndexOutOfBoundsException, NoSuchElementException {
        requireHeadword(headword);
        requireHeadword(other);
        requireForm(headword, form);
        requireForm(other, otherForm);
        derivation.derive(entry(headword).formAt(form), desk);
        int age = derivation.ageOf(entry(other).formAt(otherForm));
        if (age == NONE) {
            throw new NoSuchElementException("the second form does not come from the first one");
        }
        return age;
    }

    // ---- reports, accounts

    public int report(int level, boolean isDetail) throws NoSuchElementException {
        if (level < 0 || level >= report.levels()) {
            throw new NoSuchElementException("no such level of a report");
        }
        return isDetail ? report.detailAt(level) : report.numberAt(level);
    }

    public int account(int what) throws IllegalArgumentException {
        switch (what) {
            case 0:
                return desk.lexicon().count();
            case 1:
                return desk.lexicon().formCount();
            case 2:
                return desk.lexicon().references();
            case 3:
                return desk.rules().count();
            case 4:
                return desk.alphabet().size();
            case 5:
                return desk.lexicon().lettersOfAllForms();
            case 6:
                return desk.lexicon().unconnected();
            case 7:
                return differentResults();
            case 8:
                return input.count();
            default:
                throw new IllegalArgumentException("no such account");
        }
    }

    public double meanLength() throws ArithmeticException {
        int forms = desk.lexicon().formCount();
        if (forms == 0) {
            throw new ArithmeticException("there are no forms");
        }
        return (double) desk.lexicon().lettersOfAllForms() / (double) forms;
    }

    public float changedShare() throws ArithmeticException {
        int headwords = desk.lexicon().count();
        if (headwords == 0) {
            throw new ArithmeticException("there are no headwords");
        }
        int changed = 0;
        for (int headword = 0; headword < headwords; headword++) {
            if (derivation.derive(entry(headword).mainForm(), desk) != entry(headword).mainForm()) {
                changed++;
            }
        }
        return (float) changed / (float) headwords;
    }

    // ---- commands, undo and snapshots

    public int perform() throws UnsupportedOperationException {
        if (!commands.parse(input)) {
            input.clear();
            return SYNTAX_ERROR - commands.errorPosition();
        }
        history.prepare(desk);
        boolean isDone = carryOutAll();
        input.clear();
        if (!isDone) {
            desk.copyFrom(history.prepared());
            throw new UnsupportedOperationException("a command is refused");
        }
        history.keep();
        return commands.count();
    }

    public int undo() throws IllegalStateException {
        if (history.count() == 0) {
            throw new IllegalStateException("there is no change to take back");
        }
        history.takeBack(desk);
        return history.count();
    }

    public int save() {
        saved.copyFrom(desk);
        isSaved = true;
        return desk.lexicon().count();
    }

    public int restore() throws IllegalStateException {
        if (!isSaved) {
            throw new IllegalStateException("nothing was saved");
        }
        desk.copyFrom(saved);
        history.clear();
        return desk.lexicon().count();
    }

    // ---- what several calls need

    private void requirePlace(int place) {
        if (!desk.alphabet().hasPlace(place)) {
            throw new IndexOutOfBoundsException("no such place in the alphabet");
        }
    }

    private void requireHeadword(int headword) {
        if (!desk.lexicon().hasHeadword(headword)) {
            throw new IndexOutOfBoundsException("no such headword");
        }
    }

    private void requireForm(int headword, int form) {
        if (!entry(headword).hasForm(form)) {
            throw new NoSuchElementException("the headword has no such form");
        }
    }

    private void requireVariant(int headword, int variant) {
        if (variant == NONE) {
            throw new NoSuchElementException("the main form is no variant");
        }
        requireForm(headword, variant);
    }

    private void requireRule(int rule) {
        if (!desk.rules().hasRule(rule)) {
            throw new IndexOutOfBoundsException("no such rule");
        }
    }

    private Headword entry(int headword) {
        return desk.lexicon().entryAt(headword);
    }

    private int placeOfLetterIn(long form, int index) {
        int letter = Forms.letterAt(form, index);
        if (letter == NONE) {
            throw new NoSuchElementException("the form has no such letter");
        }
        return desk.alphabet().placeOf(letter);
    }

    /** For changes that cannot be refused any more; the others prepare first and keep later. */
    private void remember() {
        history.prepare(desk);
        history.keep();
    }

    private int differentResults() {
        int different = 0;
        for (int headword = 0; headword < desk.lexicon().count(); headword++) {
            results[headword] = derivation.derive(entry(headword).mainForm(), desk);
            if (isFirstResultOfItsKind(headword)) {
                different++;
            }
        }
        return different;
    }

    private boolean isFirstResultOfItsKind(int headword) {
        for (int earlier = 0; earlier < headword; earlier++) {
            if (results[earlier] == results[headword]) {
                return false;
            }
        }
        return true;
    }

    private int mainFormsChangedBy(int rule) {
        int changed = 0;
        for (int headword = 0; headword < desk.lexicon().count(); headword++) {
            derivation.derive(entry(headword).mainForm(), desk);
            if (derivation.isChangedBy(rule)) {
                changed++;
            }
        }
        return changed;
    }

    private int formsThatComeFromMainFormOf(int headword) {
        derivation.derive(entry(headword).mainForm(), desk);
        int forms = 0;
        for (int owner = 0; owner < desk.lexicon().count(); owner++) {
            for (int form = NONE; form < entry(owner).variants(); form++) {
                if (derivation.ageOf(entry(owner).formAt(form)) != NONE) {
                    forms++;
                }
            }
        }
        return forms;
    }

    private boolean carryOutAll() {
        for (int number = 0; number < commands.count(); number++) {
            if (!commands.hasHeadwords(number, desk.lexicon())) {
                return false;
            }
            if (isCommandRefused(number)) {
                report.tellCommand(number);
                return false;
            }
        }
        return true;
    }

    private boolean isCommandRefused(int number) {
        Lexicon lexicon = desk.lexicon();
        int headword = commands.headwordOf(number);
        int other = commands.otherOf(number);
        switch (commands.kindOf(number)) {
            case MAKING:
                input.divide(commands.startOf(number), commands.endOf(number), desk.alphabet());
                return lexicon.isMakingRefused(input, report);
            case ADDING:
                input.divide(commands.startOf(number), commands.endOf(number), desk.alphabet());
                return lexicon.isAddingRefused(headword, input, report);
            case REFERRING:
                return lexicon.isReferringRefused(headword, other, report);
            default:
                return lexicon.isJoiningRefused(headword, other, report);
        }
    }

    private static boolean isPlain(char sign) {
        return sign >= 'a' && sign <= 'z';
    }

    /** The input buffer, and the part of it that was divided into letters last. */
    private static final class Input {
        private final char[] signs;
        private int count;
        private long form;
        private int letters;

        Input() {
            signs = new char[MOST_SIGNS];
            count = 0;
            form = Forms.EMPTY;
            letters = 0;
        }

        int count() {
            return count;
        }

        boolean isFull() {
            return count >= MOST_SIGNS;
        }

        void put(char sign) {
            if (!isFull()) {
                signs[count] = sign;
                count++;
            }
        }

        void clear() {
            count = 0;
        }

        /** Behind the end stands a sign that no text of commands and no form has. */
        char signAt(int index) {
            return index >= 0 && index < count ? signs[index] : ' ';
        }

        void divideAll(Alphabet alphabet) {
            divide(0, count, alphabet);
        }

        void divide(int start, int end, Alphabet alphabet) {
            form = Forms.EMPTY;
            letters = 0;
            if (!arePlain(start, end)) {
                return;
            }
            int at = start;
            while (at < end) {
                int pair = at + 1 < end ? alphabet.letterOfSigns(signAt(at), signAt(at + 1)) : NONE;
                form = Forms.append(form, pair == NONE ? signAt(at) - 'a' : pair);
                letters++;
                at += pair == NONE ? 1 : 2;
            }
        }

        private boolean arePlain(int start, int end) {
            for (int at = start; at < end; at++) {
                if (!isPlain(signAt(at))) {
                    return false;
                }
            }
            return true;
        }

        /** The number of letters of the text, 0 if it has other characters; a form holds only the first ones. */
        int letters() {
            return letters;
        }

        boolean isForm() {
            return letters >= 1 && letters <= MOST_LETTERS;
        }

        long form() {
            return form;
        }
    }

    /**
     * A form is one number, so that copies and comparisons need no objects: eight bits for each letter, the first
     * letter in the lowest ones, each letter raised by one, and 0 where no letter is.
     */
    private static final class Forms {
        static final long EMPTY = 0;

        private static final int BITS = 8;
        private static final long MASK = 255;

        private Forms() {
        }

        /** NONE ahead of the first letter and behind the last one. */
        static int letterAt(long form, int index) {
            if (index < 0 || index >= MOST_LETTERS) {
                return NONE;
            }
            return (int) ((form >>> (BITS * index)) & MASK) - 1;
        }

        static int length(long form) {
            int length = 0;
            while (length < MOST_LETTERS && letterAt(form, length) != NONE) {
                length++;
            }
            return length;
        }

        static long append(long form, int letter) {
            int length = length(form);
            return length == MOST_LETTERS ? form : form | ((long) (letter + 1) << (BITS * length));
        }
    }

    /** Letters are numbered in the order in which they came, so that they stay what they are when they move. */
    private static final class Alphabet {
        private static final char BLANK = ' ';

        private final int[] row;
        private final char[] firsts;
        private final char[] seconds;
        private int size;

        Alphabet() {
            row = new int[MOST_PLACES];
            firsts = new char[MOST_PLACES];
            seconds = new char[MOST_PLACES];
            size = SINGLE_LETTERS;
            for (int letter = 0; letter < SINGLE_LETTERS; letter++) {
                row[letter] = letter;
                firsts[letter] = (char) ('a' + letter);
                seconds[letter] = BLANK;
            }
        }

        void copyFrom(Alphabet other) {
            System.arraycopy(other.row, 0, row, 0, MOST_PLACES);
            System.arraycopy(other.firsts, 0, firsts, 0, MOST_PLACES);
            System.arraycopy(other.seconds, 0, seconds, 0, MOST_PLACES);
            size = other.size;
        }

        int size() {
            return size;
        }

        boolean isFull() {
            return size >= MOST_PLACES;
        }

        boolean hasPlace(int place) {
            return place >= 0 && place < size;
        }

        int letterAt(int place) {
            return hasPlace(place) ? row[place] : NONE;
        }

        char firstOf(int letter) {
            return letter >= 0 && letter < size ? firsts[letter] : BLANK;
        }

        char secondOf(int letter) {
            return letter >= 0 && letter < size ? seconds[letter] : BLANK;
        }

        int placeOf(int letter) {
            for (int place = 0; place < size; place++) {
                if (row[place] == letter) {
                    return place;
                }
            }
            return NONE;
        }

        int letterOfSigns(char first, char second) {
            for (int letter = 0; letter < size; letter++) {
                if (firsts[letter] == first && seconds[letter] == second) {
                    return letter;
                }
            }
            return NONE;
        }

        void insert(char first, char second, int place) {
            if (isFull()) {
                return;
            }
            row[size] = size;
            firsts[size] = first;
            seconds[size] = second;
            size++;
            shift(size - 1, place);
        }

        void shift(int from, int to) {
            if (!hasPlace(from) || !hasPlace(to)) {
                return;
            }
            int letter = row[from];
            for (int place = from; place < to; place++) {
                row[place] = row[place + 1];
            }
            for (int place = from; place > to; place--) {
                row[place] = row[place - 1];
            }
            row[to] = letter;
        }

        boolean isVowel(int letter) {
            char first = firstOf(letter);
            return first == 'a' || first == 'e' || first == 'i' || first == 'o' || first == 'u';
        }

        /** -1 if the first form comes first, 1 if the second one does, 0 if they are the same. */
        int order(long form, long other) {
            for (int index = 0; index < MOST_LETTERS; index++) {
                int letter = Forms.letterAt(form, index);
                int otherLetter = Forms.letterAt(other, index);
                if (letter != otherLetter) {
                    // A form that has ended has no place here, NONE, and so the shorter one comes first.
                    return placeOf(letter) < placeOf(otherLetter) ? -1 : 1;
                }
            }
            return 0;
        }
    }

    /** The main form of a headword has the number -1, its variants have theirs. */
    private static final class Headword {
        private final long[] forms;
        private int variants;
        private int reference;

        Headword() {
            forms = new long[1 + MOST_VARIANTS];
            variants = 0;
            reference = NONE;
        }

        void copyFrom(Headword other) {
            System.arraycopy(other.forms, 0, forms, 0, 1 + MOST_VARIANTS);
            variants = other.variants;
            reference = other.reference;
        }

        void begin(long mainForm) {
            forms[0] = mainForm;
            variants = 0;
            reference = NONE;
        }

        int variants() {
            return variants;
        }

        int formCount() {
            return 1 + variants;
        }

        boolean hasForm(int form) {
            return form >= NONE && form < variants;
        }

        long formAt(int form) {
            return hasForm(form) ? forms[1 + form] : Forms.EMPTY;
        }

        boolean owns(long form) {
            for (int number = 0; number <= variants; number++) {
                if (forms[number] == form) {
                    return true;
                }
            }
            return false;
        }

        long mainForm() {
            return forms[0];
        }

        void setMainForm(long form) {
            forms[0] = form;
        }

        void appendVariant(long form) {
            if (variants < MOST_VARIANTS) {
                variants++;
                forms[variants] = form;
            }
        }

        void swapMainForm(int variant) {
            if (hasForm(variant)) {
                long earlier = forms[0];
                forms[0] = forms[1 + variant];
                forms[1 + variant] = earlier;
            }
        }

        void dropVariant(int variant) {
            if (variant >= 0 && variant < variants) {
                for (int later = variant + 1; later < variants; later++) {
                    forms[later] = forms[1 + later];
                }
                variants--;
            }
        }

        int reference() {
            return reference;
        }

        void setReference(int headword) {
            reference = headword;
        }

        int letters() {
            int letters = 0;
            for (int form = 0; form <= variants; form++) {
                letters += Forms.length(forms[form]);
            }
            return letters;
        }
    }

    /** All headwords. What can be refused leaves its report itself and answers whether it was refused. */
    private static final class Lexicon {
        private final Headword[] row;
        private int count;

        Lexicon() {
            row = new Headword[MOST_HEADWORDS];
            count = 0;
            for (int headword = 0; headword < MOST_HEADWORDS; headword++) {
                row[headword] = new Headword();
            }
        }

        void copyFrom(Lexicon other) {
            for (int headword = 0; headword < other.count; headword++) {
                row[headword].copyFrom(other.row[headword]);
            }
            count = other.count;
        }

        int count() {
            return count;
        }

        boolean hasHeadword(int headword) {
            return headword >= 0 && headword < count;
        }

        /** Only for a number that hasHeadword has looked at; any other one gets the first of the row. */
        Headword entryAt(int headword) {
            return row[hasHeadword(headword) ? headword : 0];
        }

        int formCount() {
            int forms = 0;
            for (int headword = 0; headword < count; headword++) {
                forms += row[headword].formCount();
            }
            return forms;
        }

        int lettersOfAllForms() {
            int letters = 0;
            for (int headword = 0; headword < count; headword++) {
                letters += row[headword].letters();
            }
            return letters;
        }

        int ownerOf(long form) {
            for (int headword = 0; headword < count; headword++) {
                if (row[headword].owns(form)) {
                    return headword;
                }
            }
            return NONE;
        }

        int references() {
            int references = 0;
            for (int headword = 0; headword < count; headword++) {
                if (row[headword].reference() != NONE) {
                    references++;
                }
            }
            return references;
        }

        int referrersOf(int headword) {
            int referrers = 0;
            for (int other = 0; other < count; other++) {
                if (row[other].reference() == headword) {
                    referrers++;
                }
            }
            return referrers;
        }

        int unconnected() {
            int unconnected = 0;
            for (int headword = 0; headword < count; headword++) {
                if (row[headword].reference() == NONE && referrersOf(headword) == 0) {
                    unconnected++;
                }
            }
            return unconnected;
        }

        int endOf(int headword) {
            int end = headword;
            for (int step = 0; step < count && entryAt(end).reference() != NONE; step++) {
                end = entryAt(end).reference();
            }
            return end;
        }

        /** NONE if one does not arrive; as references never circle, there are fewer steps than headwords. */
        int stepsBetween(int headword, int other) {
            int at = headword;
            for (int steps = 0; steps < count && at != NONE; steps++) {
                if (at == other) {
                    return steps;
                }
                at = entryAt(at).reference();
            }
            return NONE;
        }

        int placeInOrder(int headword, Alphabet alphabet) {
            int ahead = 0;
            for (int other = 0; other < count; other++) {
                if (alphabet.order(row[other].mainForm(), entryAt(headword).mainForm()) < 0) {
                    ahead++;
                }
            }
            return ahead;
        }

        int atPlaceInOrder(int place, Alphabet alphabet) {
            for (int headword = 0; headword < count; headword++) {
                if (placeInOrder(headword, alphabet) == place) {
                    return headword;
                }
            }
            return NONE;
        }

        boolean isMakingRefused(Input text, Report report) {
            if (isTextRefused(MAKING, NONE, text, report) || isMoreRefused(MAKING, NONE, report)) {
                return true;
            }
            row[count].begin(text.form());
            count++;
            return false;
        }

        boolean isAddingRefused(int headword, Input text, Report report) {
            if (isTextRefused(ADDING, headword, text, report) || isMoreRefused(ADDING, headword, report)) {
                return true;
            }
            if (entryAt(headword).variants() == MOST_VARIANTS) {
                report.write(ADDING, headword, HEADWORD_IS_FULL, headword);
                return true;
            }
            entryAt(headword).appendVariant(text.form());
            return false;
        }

        boolean isRenamingRefused(int headword, Input text, Report report) {
            if (isTextRefused(RENAMING, headword, text, report)) {
                return true;
            }
            entryAt(headword).setMainForm(text.form());
            return false;
        }

        private boolean isTextRefused(int what, int headword, Input text, Report report) {
            if (!text.isForm()) {
                report.write(what, headword, NO_FORM, text.letters());
                return true;
            }
            int owner = ownerOf(text.form());
            if (owner != NONE) {
                report.write(what, headword, FORM_IS_TAKEN, owner);
                return true;
            }
            return false;
        }

        /** The document gives making a headword and adding a variant the same reason 3, so 20 headwords stop both. */
        private boolean isMoreRefused(int what, int headword, Report report) {
            if (count >= MOST_HEADWORDS) {
                report.write(what, headword, DICTIONARY_IS_FULL, MOST_HEADWORDS);
                return true;
            }
            if (formCount() >= MOST_FORMS) {
                report.write(what, headword, DICTIONARY_IS_FULL, MOST_FORMS);
                return true;
            }
            return false;
        }

        boolean isReferringRefused(int headword, int other, Report report) {
            if (stepsBetween(other, headword) != NONE) {
                report.write(REFERRING, headword, CIRCLE, endOf(other));
                return true;
            }
            entryAt(headword).setReference(other);
            return false;
        }

        boolean isJoiningRefused(int headword, int other, Report report) {
            if (headword == other) {
                report.write(JOINING, headword, JOINED_TO_ITSELF, headword);
                return true;
            }
            int variants = entryAt(headword).variants() + entryAt(other).formCount();
            if (variants > MOST_VARIANTS) {
                report.write(JOINING, headword, TOO_MANY_BY_JOINING, variants);
                return true;
            }
            // A direct reference to the joined headword falls away; a longer way to it would come back.
            if (stepsBetween(headword, other) > 1) {
                report.write(JOINING, headword, CIRCLE, endOf(headword));
                return true;
            }
            unite(headword, other);
            return false;
        }

        private void unite(int headword, int other) {
            Headword united = entryAt(headword);
            Headword joined = entryAt(other);
            for (int form = NONE; form < joined.variants(); form++) {
                united.appendVariant(joined.formAt(form));
            }
            for (int referrer = 0; referrer < count; referrer++) {
                if (row[referrer].reference() == other) {
                    row[referrer].setReference(referrer == headword ? NONE : headword);
                }
            }
            drop(other);
        }

        /** Returns the number of references that are gone. */
        int drop(int headword) {
            if (!hasHeadword(headword)) {
                return 0;
            }
            Headword dropped = row[headword];
            int gone = dropped.reference() == NONE ? 0 : 1;
            for (int later = headword + 1; later < count; later++) {
                row[later - 1] = row[later];
            }
            row[count - 1] = dropped;
            count--;
            for (int other = 0; other < count; other++) {
                int reference = row[other].reference();
                if (reference == headword) {
                    row[other].setReference(NONE);
                    gone++;
                } else if (reference > headword) {
                    row[other].setReference(reference - 1);
                }
            }
            return gone;
        }
    }

    /** The rules of sound change; they keep letters, not places, as letters may move. */
    private static final class Rules {
        private static final int ANYTHING = 0;
        private static final int VOWEL = 1;
        private static final int CONSONANT = 2;
        private static final int NOTHING = 3;

        private final int[] from;
        private final int[] to;
        private final int[] ahead;
        private final int[] behind;
        private int count;

        Rules() {
            from = new int[MOST_RULES];
            to = new int[MOST_RULES];
            ahead = new int[MOST_RULES];
            behind = new int[MOST_RULES];
            count = 0;
        }

        void copyFrom(Rules other) {
            System.arraycopy(other.from, 0, from, 0, MOST_RULES);
            System.arraycopy(other.to, 0, to, 0, MOST_RULES);
            System.arraycopy(other.ahead, 0, ahead, 0, MOST_RULES);
            System.arraycopy(other.behind, 0, behind, 0, MOST_RULES);
            count = other.count;
        }

        static boolean isCondition(int condition) {
            return condition >= ANYTHING && condition <= NOTHING;
        }

        int count() {
            return count;
        }

        boolean isFull() {
            return count >= MOST_RULES;
        }

        boolean hasRule(int rule) {
            return rule >= 0 && rule < count;
        }

        int from(int rule) {
            return hasRule(rule) ? from[rule] : NONE;
        }

        int to(int rule) {
            return hasRule(rule) ? to[rule] : NONE;
        }

        int ahead(int rule) {
            return hasRule(rule) ? ahead[rule] : ANYTHING;
        }

        int behind(int rule) {
            return hasRule(rule) ? behind[rule] : ANYTHING;
        }

        void append(int fromLetter, int toLetter, int aheadCondition, int behindCondition) {
            if (!isFull()) {
                from[count] = fromLetter;
                to[count] = toLetter;
                ahead[count] = aheadCondition;
                behind[count] = behindCondition;
                count++;
            }
        }

        void swap(int rule, int other) {
            if (hasRule(rule) && hasRule(other)) {
                swapIn(from, rule, other);
                swapIn(to, rule, other);
                swapIn(ahead, rule, other);
                swapIn(behind, rule, other);
            }
        }

        private static void swapIn(int[] numbers, int rule, int other) {
            int earlier = numbers[rule];
            numbers[rule] = numbers[other];
            numbers[other] = earlier;
        }

        void drop(int rule) {
            if (hasRule(rule)) {
                for (int later = rule + 1; later < count; later++) {
                    swap(later - 1, later);
                }
                count--;
            }
        }

        long carryOut(int rule, long form, Alphabet alphabet) {
            long changed = Forms.EMPTY;
            int length = Forms.length(form);
            for (int index = 0; index < length; index++) {
                int letter = Forms.letterAt(form, index);
                if (!isHit(rule, form, index, alphabet)) {
                    changed = Forms.append(changed, letter);
                } else if (to(rule) != NONE) {
                    changed = Forms.append(changed, to(rule));
                }
            }
            return changed == Forms.EMPTY ? form : changed;
        }

        private boolean isHit(int rule, long form, int index, Alphabet alphabet) {
            return Forms.letterAt(form, index) == from(rule)
                    && holds(ahead(rule), Forms.letterAt(form, index - 1), alphabet)
                    && holds(behind(rule), Forms.letterAt(form, index + 1), alphabet);
        }

        private static boolean holds(int condition, int neighbour, Alphabet alphabet) {
            switch (condition) {
                case VOWEL:
                    return neighbour != NONE && alphabet.isVowel(neighbour);
                case CONSONANT:
                    return neighbour != NONE && !alphabet.isVowel(neighbour);
                case NOTHING:
                    return neighbour == NONE;
                default:
                    return true;
            }
        }
    }

    /** The row of forms that rules make of one form, and the rule behind each form. */
    private static final class Derivation {
        private final long[] row;
        private final int[] rules;
        private int count;

        Derivation() {
            row = new long[1 + MOST_RULES];
            rules = new int[1 + MOST_RULES];
            count = 1;
        }

        /** Returns the result. */
        long derive(long form, Desk desk) {
            long result = form;
            row[0] = form;
            count = 1;
            for (int rule = 0; rule < desk.rules().count(); rule++) {
                long changed = desk.rules().carryOut(rule, result, desk.alphabet());
                if (changed != result && count <= MOST_RULES) {
                    row[count] = changed;
                    rules[count] = rule;
                    count++;
                    result = changed;
                }
            }
            return result;
        }

        int count() {
            return count;
        }

        boolean hasPlace(int place) {
            return place >= 0 && place < count;
        }

        long formAt(int place) {
            return hasPlace(place) ? row[place] : Forms.EMPTY;
        }

        int ruleAt(int place) {
            return hasPlace(place) ? rules[place] : NONE;
        }

        /** The lowest place of the form behind the first one, NONE if it does not stand there. */
        int ageOf(long form) {
            for (int place = 1; place < count; place++) {
                if (row[place] == form) {
                    return place;
                }
            }
            return NONE;
        }

        boolean isChangedBy(int rule) {
            for (int place = 1; place < count; place++) {
                if (rules[place] == rule) {
                    return true;
                }
            }
            return false;
        }
    }

    /** All that changes take back and snapshots hold. */
    private static final class Desk {
        private final Alphabet alphabet;
        private final Lexicon lexicon;
        private final Rules rules;

        Desk() {
            alphabet = new Alphabet();
            lexicon = new Lexicon();
            rules = new Rules();
        }

        void copyFrom(Desk other) {
            alphabet.copyFrom(other.alphabet);
            lexicon.copyFrom(other.lexicon);
            rules.copyFrom(other.rules);
        }

        Alphabet alphabet() {
            return alphabet;
        }

        Lexicon lexicon() {
            return lexicon;
        }

        Rules rules() {
            return rules;
        }
    }

    /**
     * The desks as they were before the latest changes, in a ring. It has one desk more than changes are kept, for a
     * change that may still be refused must not cost the oldest one.
     */
    private static final class History {
        private static final int DESKS = MOST_CHANGES + 1;

        private final Desk[] ring;
        private int next;
        private int count;

        History() {
            ring = new Desk[DESKS];
            next = 0;
            count = 0;
            for (int place = 0; place < DESKS; place++) {
                ring[place] = new Desk();
            }
        }

        int count() {
            return count;
        }

        void prepare(Desk desk) {
            ring[next].copyFrom(desk);
        }

        Desk prepared() {
            return ring[next];
        }

        void keep() {
            next = (next + 1) % DESKS;
            count = Math.min(count + 1, MOST_CHANGES);
        }

        void takeBack(Desk desk) {
            if (count > 0) {
                next = (next + DESKS - 1) % DESKS;
                count--;
                desk.copyFrom(ring[next]);
            }
        }

        void clear() {
            count = 0;
        }
    }

    private static final class Report {
        private static final int MOST_LEVELS = 3;

        private final int[] numbers;
        private final int[] details;
        private int levels;

        Report() {
            numbers = new int[MOST_LEVELS];
            details = new int[MOST_LEVELS];
            levels = 0;
        }

        void write(int what, int headword, int reason, int detail) {
            numbers[0] = what;
            details[0] = headword;
            numbers[1] = reason;
            details[1] = detail;
            levels = 2;
        }

        /** Puts the command ahead of what was written for it. */
        void tellCommand(int command) {
            for (int level = MOST_LEVELS - 1; level > 0; level--) {
                numbers[level] = numbers[level - 1];
                details[level] = details[level - 1];
            }
            numbers[0] = COMMAND;
            details[0] = command;
            levels = MOST_LEVELS;
        }

        int levels() {
            return levels;
        }

        int numberAt(int level) {
            return level >= 0 && level < levels ? numbers[level] : NONE;
        }

        int detailAt(int level) {
            return level >= 0 && level < levels ? details[level] : NONE;
        }
    }

    /** A text of commands, read from the input buffer; its forms stay there and are divided when their turn comes. */
    private static final class Commands {
        /** No command is shorter than two characters. */
        private static final int MOST = MOST_SIGNS / 2;

        private final int[] kinds;
        private final int[] headwords;
        private final int[] others;
        private final int[] starts;
        private final int[] ends;
        private int count;
        private int cursor;

        Commands() {
            kinds = new int[MOST];
            headwords = new int[MOST];
            others = new int[MOST];
            starts = new int[MOST];
            ends = new int[MOST];
            count = 0;
            cursor = 0;
        }

        /** If it fails, the error position is the place that it could not pass. */
        boolean parse(Input text) {
            count = 0;
            cursor = 0;
            boolean hasMore = true;
            while (hasMore && count < MOST) {
                if (!parseCommand(text)) {
                    return false;
                }
                count++;
                hasMore = take(';', text);
            }
            return cursor == text.count();
        }

        int errorPosition() {
            return cursor;
        }

        private boolean parseCommand(Input text) {
            headwords[count] = NONE;
            others[count] = NONE;
            if (take('+', text)) {
                kinds[count] = MAKING;
                return parseForm(text);
            }
            headwords[count] = parseNumber(text);
            if (headwords[count] == NONE) {
                return false;
            }
            if (take('~', text)) {
                kinds[count] = ADDING;
                return parseForm(text);
            }
            kinds[count] = text.signAt(cursor) == '>' ? REFERRING : JOINING;
            if (take('>', text) || take('&', text)) {
                others[count] = parseNumber(text);
                return others[count] != NONE;
            }
            return false;
        }

        private boolean take(char sign, Input text) {
            if (text.signAt(cursor) != sign) {
                return false;
            }
            cursor++;
            return true;
        }

        private boolean parseForm(Input text) {
            starts[count] = cursor;
            while (cursor < text.count() && isPlain(text.signAt(cursor))) {
                cursor++;
            }
            ends[count] = cursor;
            return ends[count] > starts[count];
        }

        /** NONE if no digit stands here. */
        private int parseNumber(Input text) {
            if (!isDigit(text.signAt(cursor))) {
                return NONE;
            }
            int number = text.signAt(cursor) - '0';
            cursor++;
            if (isDigit(text.signAt(cursor))) {
                number = 10 * number + text.signAt(cursor) - '0';
                cursor++;
            }
            return number;
        }

        private static boolean isDigit(char sign) {
            return sign >= '0' && sign <= '9';
        }

        int count() {
            return count;
        }

        private boolean hasCommand(int number) {
            return number >= 0 && number < count;
        }

        int kindOf(int number) {
            return hasCommand(number) ? kinds[number] : NONE;
        }

        int headwordOf(int number) {
            return hasCommand(number) ? headwords[number] : NONE;
        }

        int otherOf(int number) {
            return hasCommand(number) ? others[number] : NONE;
        }

        int startOf(int number) {
            return hasCommand(number) ? starts[number] : 0;
        }

        int endOf(int number) {
            return hasCommand(number) ? ends[number] : 0;
        }

        boolean hasHeadwords(int number, Lexicon lexicon) {
            int kind = kindOf(number);
            if (kind != MAKING && !lexicon.hasHeadword(headwordOf(number))) {
                return false;
            }
            return kind == MAKING || kind == ADDING || lexicon.hasHeadword(otherOf(number));
        }
    }
}
