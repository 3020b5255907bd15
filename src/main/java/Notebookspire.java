/**
 * An office suite's heart: sheets, texts that several persons edit at once, decks, shows of parts in one another,
 * flat texts, versions and macros. All state is made ahead, in constructors, and used again by each call.
 */
public final class Notebookspire {
    public static final int NONE = -1;
    public static final int SHEET = 0, TEXT = 1, DECK = 2;
    public static final int NOTHING = 0, SEE = 1, NOTE = 2, EDIT = 3;
    public static final int PLUS = 0, MINUS = 1, TIMES = 2, SUM = 3, LIST = 4;
    public static final int OVER = 1, BLOCKED = 2, HIDDEN = 3;
    public static final int HEAD = 0, SUB = 1, BODY = 2, REMARK = 3;
    public static final int WRITE = 0, ADD = 1, MOVE = 2, TYPE = 3, COUNT = 4, BACK = 5;

    private static final int PERSONS = 4, MOST_PARTS = 6;
    private static final int CELLS = 12, COLUMNS = 3, ROWS = 4;
    private static final int MOST_NUMBER = 1000, MOST_VALUE = 1000000, MOST_ROUNDS = 20, MOST_LISTED = 4;
    private static final int LETTERS = 26, FIRST_BREAK = 100, SORTS = 4, FIRST_FIELD = 200;
    private static final int MOST_TOKENS = 40, MOST_OWN = 6, MOST_EDITS = 300, MOST_SIZE = 99;
    private static final int MOST_COMMENTS = 12, MOST_SHOWS = 10, MOST_SIGNS = 80;
    private static final int MOST_SLIDES = 6, BOXES = 3, MOST_STEP = 3;
    private static final int MOST_VERSIONS = 5, MOST_LINES = 8, MOST_RUN_STEPS = 30;
    /** 40 FIELDs of 80 signs, and what one show may run over before it is cut. */
    private static final int MOST_FLAT = 40 * 80 + 400;
    /** What an edit does. */
    private static final int VOID = 0, PUTS = 1, TAKES = 2;
    /** What a cell has: nothing, a number, or a formula, told as this and its kind. */
    private static final int BLANK = 0, NUMBER = 1, FORMULA = 2;
    /** A value is told as one number: itself, or this for a blank one, or this and the error. */
    private static final int EMPTY = 2000000, FAULT = 3000000;
    private static final int[] FIRST_SIZES = {30, 20, 10, 8};

    private final Values values = new Values();
    private final Parts parts = values.parts;
    private final Sheet[] sheets = values.sheets;
    private final Text[] texts = new Text[MOST_PARTS];
    private final Deck[] decks = new Deck[MOST_PARTS];
    /** The tokens of the comments, and behind them those of the shows. */
    private final Span[] spans = new Span[MOST_COMMENTS + MOST_SHOWS];
    private final int[] makers = new int[MOST_COMMENTS];
    private final int[] suggestions = new int[MOST_COMMENTS];
    private int commentCount;
    private final Window[] windows = new Window[MOST_SHOWS];
    private int showCount;
    private final Strip strip = new Strip(MOST_FLAT);
    /** How many parts there were when each version was made. */
    private final int[] partsThen = new int[MOST_VERSIONS];
    private int versionCount;
    private final int[] lineKinds = new int[MOST_LINES];
    private final int[] lineNumbers = new int[MOST_LINES];
    private int lineCount;

    public Notebookspire() {
        for (int i = 0; i < MOST_COMMENTS; i++) {
            spans[i] = new Span();
        }
        for (int i = 0; i < MOST_SHOWS; i++) {
            windows[i] = new Window();
            spans[MOST_COMMENTS + i] = windows[i].span;
        }
    }

    // ---- parts and rights

    public int make(int person, int kind) throws IndexOutOfBoundsException, IllegalArgumentException, IllegalStateException {
        if (!isPerson(person)) {
            throw new IndexOutOfBoundsException("no such person");
        }
        if (kind < SHEET || kind > DECK) {
            throw new IllegalArgumentException("no such kind");
        }
        if (parts.count >= MOST_PARTS) {
            throw new IllegalStateException("too many parts");
        }
        int part = parts.add(person);
        if (kind == SHEET) {
            sheets[part] = new Sheet();
        } else if (kind == TEXT) {
            texts[part] = new Text(part, spans);
        } else {
            decks[part] = new Deck();
        }
        values.known = false;
        return part;
    }

    public int give(int person, int part, int other, int right) throws IndexOutOfBoundsException, IllegalArgumentException, UnsupportedOperationException {
        if (!isPerson(person) || !isPerson(other) || !parts.has(part)) {
            throw new IndexOutOfBoundsException("no such person or part");
        }
        if (right < NOTHING || right > EDIT || parts.owners[part] == other) {
            throw new IllegalArgumentException("no such right, or one of the owner");
        }
        if (parts.owners[part] != person) {
            throw new UnsupportedOperationException("not the owner");
        }
        int before = parts.rightOf(part, other);
        parts.rights[part * PERSONS + other] = right;
        values.known = false;
        return before;
    }

    public int right(int part, int person) throws IndexOutOfBoundsException {
        if (!parts.has(part) || !isPerson(person)) {
            throw new IndexOutOfBoundsException("no such part or person");
        }
        return parts.rightOf(part, person);
    }

    // ---- sheets

    public void set(int person, int part, int cell, boolean isBlank, int number) throws IndexOutOfBoundsException, IllegalArgumentException, UnsupportedOperationException {
        Sheet sheet = sheetAt(part);
        if (sheet == null || !isPerson(person) || !isCell(cell)) {
            throw new IndexOutOfBoundsException("no such person, SHEET or cell");
        }
        if (!isBlank && (number < -MOST_NUMBER || number > MOST_NUMBER)) {
            throw new IllegalArgumentException("no such number");
        }
        if (!parts.allows(part, person, EDIT)) {
            throw new UnsupportedOperationException("not EDIT");
        }
        if (isBlank) {
            sheet.fill(cell, BLANK, 0);
        } else {
            sheet.fill(cell, NUMBER, number);
        }
        values.known = false;
    }

    public void formula(int person, int part, int cell, int kind, int sheet, int first, int other, int second) throws IndexOutOfBoundsException, IllegalArgumentException, UnsupportedOperationException {
        Sheet own = sheetAt(part);
        boolean hasSecond = kind != LIST;
        boolean hasOther = hasSecond && kind != SUM;
        if (own == null || !isPerson(person) || !isCell(cell) || sheetAt(sheet) == null || !isCell(first)
                || hasOther && sheetAt(other) == null || hasSecond && !isCell(second)) {
            throw new IndexOutOfBoundsException("no such person, SHEET or cell");
        }
        if (kind < PLUS || kind > LIST) {
            throw new IllegalArgumentException("no such kind");
        }
        if (!parts.allows(part, person, EDIT)) {
            throw new UnsupportedOperationException("not EDIT");
        }
        own.fill(cell, FORMULA + kind, sheet);
        own.fillCells(cell, first, hasOther ? other : 0, hasSecond ? second : 0);
        values.known = false;
    }

    public int what(int person, int part, int cell) throws IndexOutOfBoundsException, UnsupportedOperationException {
        if (sheetAt(part) == null || !isPerson(person) || !isCell(cell)) {
            throw new IndexOutOfBoundsException("no such person, SHEET or cell");
        }
        if (!parts.allows(part, person, SEE)) {
            throw new UnsupportedOperationException("not SEE");
        }
        values.find();
        int told = values.told[part * CELLS + cell];
        return told == EMPTY ? 0 : told > FAULT ? 2 : 1;
    }

    public int value(int person, int part, int cell) throws IndexOutOfBoundsException, UnsupportedOperationException {
        if (sheetAt(part) == null || !isPerson(person) || !isCell(cell)) {
            throw new IndexOutOfBoundsException("no such person, SHEET or cell");
        }
        if (!parts.allows(part, person, SEE)) {
            throw new UnsupportedOperationException("not SEE");
        }
        values.find();
        return plainNumber(values.told[part * CELLS + cell]);
    }

    public int valueAnew(int person, int part, int cell) throws IndexOutOfBoundsException, UnsupportedOperationException {
        if (sheetAt(part) == null || !isPerson(person) || !isCell(cell)) {
            throw new IndexOutOfBoundsException("no such person, SHEET or cell");
        }
        if (!parts.allows(part, person, SEE)) {
            throw new UnsupportedOperationException("not SEE");
        }
        values.known = false;
        values.find();
        return plainNumber(values.told[part * CELLS + cell]);
    }

    public int rounds() {
        values.find();
        return values.roundCount;
    }

    // ---- texts

    public int put(int person, int part, int place, int token) throws IndexOutOfBoundsException, IllegalArgumentException, UnsupportedOperationException, IllegalStateException {
        Text text = textAt(part);
        if (text == null || !isPerson(person)) {
            throw new IndexOutOfBoundsException("no such person or TEXT");
        }
        int tokens = text.viewOf(person).count;
        if (place < 0 || place > tokens) {
            throw new IndexOutOfBoundsException("no such place");
        }
        if (!isLetter(token) && !isBreak(token) && !isField(token)) {
            throw new IllegalArgumentException("no such token");
        }
        if (!parts.allows(part, person, EDIT)) {
            throw new UnsupportedOperationException("not EDIT");
        }
        if (tokens >= MOST_TOKENS || text.seats[person].count >= MOST_OWN) {
            throw new IllegalStateException("too many tokens or own edits");
        }
        return text.edit(person, PUTS, place, token);
    }

    public int out(int person, int part, int place) throws IndexOutOfBoundsException, UnsupportedOperationException, IllegalStateException {
        Text text = textAt(part);
        if (text == null || !isPerson(person) || !text.viewOf(person).has(place)) {
            throw new IndexOutOfBoundsException("no such person, TEXT or token");
        }
        if (!parts.allows(part, person, EDIT)) {
            throw new UnsupportedOperationException("not EDIT");
        }
        if (text.seats[person].count >= MOST_OWN) {
            throw new IllegalStateException("too many own edits");
        }
        return text.edit(person, TAKES, place, NONE);
    }

    public int see(int person, int part) throws IndexOutOfBoundsException, UnsupportedOperationException {
        Text text = textAt(part);
        if (text == null || !isPerson(person)) {
            throw new IndexOutOfBoundsException("no such person or TEXT");
        }
        if (!parts.allows(part, person, SEE)) {
            throw new UnsupportedOperationException("not SEE");
        }
        text.seeNext(person);
        return text.editCount - text.seats[person].seen;
    }

    public int send(int person, int part) throws IndexOutOfBoundsException, UnsupportedOperationException, IllegalStateException {
        Text text = textAt(part);
        if (text == null || !isPerson(person)) {
            throw new IndexOutOfBoundsException("no such person or TEXT");
        }
        if (!parts.allows(part, person, EDIT)) {
            throw new UnsupportedOperationException("not EDIT");
        }
        if (!text.sendOwn(person)) {
            throw new IllegalStateException("the log would be too long");
        }
        return text.editCount;
    }

    public boolean undo(int person, int part) throws IndexOutOfBoundsException, UnsupportedOperationException, IllegalStateException {
        Text text = textAt(part);
        if (text == null || !isPerson(person)) {
            throw new IndexOutOfBoundsException("no such person or TEXT");
        }
        if (!parts.allows(part, person, EDIT)) {
            throw new UnsupportedOperationException("not EDIT");
        }
        text.keep(person);
        boolean fits = text.sendOwn(person) && text.hasRoom(1);
        int latest = fits ? text.latestToUndo(person) : NONE;
        if (latest == NONE) {
            text.goBack(person);
            throw new IllegalStateException("nothing to be undone, or the log would be too long");
        }
        return text.undoEdit(person, latest);
    }

    public int view(int person, int part) throws IndexOutOfBoundsException, UnsupportedOperationException {
        Text text = textAt(part);
        if (text == null || !isPerson(person)) {
            throw new IndexOutOfBoundsException("no such person or TEXT");
        }
        if (!parts.allows(part, person, SEE)) {
            throw new UnsupportedOperationException("not SEE");
        }
        return text.viewOf(person).count;
    }

    public int viewAt(int person, int part, int place) throws IndexOutOfBoundsException, UnsupportedOperationException {
        Text text = textAt(part);
        if (text == null || !isPerson(person)) {
            throw new IndexOutOfBoundsException("no such person or TEXT");
        }
        Row seen = text.viewOf(person);
        if (!seen.has(place)) {
            throw new IndexOutOfBoundsException("no such token");
        }
        if (!parts.allows(part, person, SEE)) {
            throw new UnsupportedOperationException("not SEE");
        }
        return seen.tokens[place];
    }

    public int length(int part) throws IndexOutOfBoundsException {
        Text text = textAt(part);
        if (text == null) {
            throw new IndexOutOfBoundsException("no such TEXT");
        }
        return text.row.count;
    }

    public int token(int part, int place) throws IndexOutOfBoundsException {
        Text text = textAt(part);
        if (text == null || !text.row.has(place)) {
            throw new IndexOutOfBoundsException("no such TEXT or token");
        }
        return text.row.tokens[place];
    }

    public int tokenByLog(int part, int place) throws IndexOutOfBoundsException {
        Text text = textAt(part);
        if (text == null) {
            throw new IndexOutOfBoundsException("no such TEXT");
        }
        Row row = text.rowByLog();
        if (!row.has(place)) {
            throw new IndexOutOfBoundsException("no such token");
        }
        return row.tokens[place];
    }

    public int log(int part) throws IndexOutOfBoundsException {
        Text text = textAt(part);
        if (text == null) {
            throw new IndexOutOfBoundsException("no such TEXT");
        }
        return text.editCount;
    }

    public int block(int part, int place) throws IndexOutOfBoundsException {
        Text text = textAt(part);
        if (text == null || place < 0 || place > text.row.count) {
            throw new IndexOutOfBoundsException("no such TEXT or place");
        }
        return text.row.blockNumber(place);
    }

    public int setSize(int person, int part, int sort, int size) throws IndexOutOfBoundsException, IllegalArgumentException, UnsupportedOperationException {
        Text text = textAt(part);
        if (text == null || !isPerson(person)) {
            throw new IndexOutOfBoundsException("no such person or TEXT");
        }
        if (sort < HEAD || sort > REMARK || size < 0 || size > MOST_SIZE) {
            throw new IllegalArgumentException("no such sort or size");
        }
        if (!parts.allows(part, person, EDIT)) {
            throw new UnsupportedOperationException("not EDIT");
        }
        int before = sizeByModels(text, sort);
        text.sizes[sort] = size;
        return before;
    }

    public int size(int part, int sort) throws IndexOutOfBoundsException, IllegalArgumentException {
        Text text = textAt(part);
        if (text == null) {
            throw new IndexOutOfBoundsException("no such TEXT");
        }
        if (sort < HEAD || sort > REMARK) {
            throw new IllegalArgumentException("no such sort");
        }
        return sizeByModels(text, sort);
    }

    public int model(int person, int part, int model) throws IndexOutOfBoundsException, UnsupportedOperationException, IllegalStateException {
        Text text = textAt(part);
        if (text == null || !isPerson(person) || model != NONE && textAt(model) == null) {
            throw new IndexOutOfBoundsException("no such person or TEXT");
        }
        if (!parts.allows(part, person, EDIT) || model != NONE && !parts.allows(model, person, SEE)) {
            throw new UnsupportedOperationException("not EDIT to the TEXT, or not SEE to its model");
        }
        if (leadsTo(model, part)) {
            throw new IllegalStateException("the TEXT would lead to itself");
        }
        int before = text.model;
        text.model = model;
        return before;
    }

    // ---- comments

    public int comment(int person, int part, int first, int last, int suggested) throws IndexOutOfBoundsException, IllegalArgumentException, UnsupportedOperationException, IllegalStateException {
        Text text = textAt(part);
        if (text == null || !isPerson(person) || !text.row.has(first) || !text.row.has(last) || last < first) {
            throw new IndexOutOfBoundsException("no such person, TEXT or tokens");
        }
        if (suggested != NONE && !isLetter(suggested)) {
            throw new IllegalArgumentException("no such letter");
        }
        if (!parts.allows(part, person, NOTE)) {
            throw new UnsupportedOperationException("not NOTE");
        }
        if (commentCount >= MOST_COMMENTS) {
            throw new IllegalStateException("too many comments");
        }
        int number = commentCount;
        spans[number].begin(part, first, last - first + 1);
        makers[number] = person;
        suggestions[number] = suggested;
        commentCount = number + 1;
        return number;
    }

    public int about(int comment) throws IndexOutOfBoundsException {
        if (!isComment(comment)) {
            throw new IndexOutOfBoundsException("no such comment");
        }
        Span span = spans[comment];
        return span.isOpen ? 100 * span.first + span.count : NONE;
    }

    public boolean close(int person, int comment) throws IndexOutOfBoundsException, UnsupportedOperationException {
        if (!isPerson(person) || !isComment(comment)) {
            throw new IndexOutOfBoundsException("no such person or comment");
        }
        Span span = spans[comment];
        if (makers[comment] != person && !parts.allows(span.part, person, EDIT)) {
            throw new UnsupportedOperationException("neither its maker nor EDIT");
        }
        boolean wasOpen = span.isOpen;
        span.isOpen = false;
        return wasOpen;
    }

    public int take(int person, int comment) throws IndexOutOfBoundsException, UnsupportedOperationException, IllegalStateException {
        Text text = isComment(comment) ? textAt(spans[comment].part) : null;
        if (text == null || !isPerson(person)) {
            throw new IndexOutOfBoundsException("no such person or comment");
        }
        Span span = spans[comment];
        if (!parts.allows(span.part, person, EDIT)) {
            throw new UnsupportedOperationException("not EDIT");
        }
        text.keep(person);
        boolean fits = suggestions[comment] != NONE && text.sendOwn(person) && span.isOpen && text.hasRoom(span.count + 1);
        if (!fits) {
            text.goBack(person);
            throw new IllegalStateException("closed, or nothing suggested, or the log would be too long");
        }
        text.replaceTokens(person, span, suggestions[comment]);
        span.isOpen = false;
        return text.editCount;
    }

    // ---- decks

    public int slide(int person, int part, int at) throws IndexOutOfBoundsException, UnsupportedOperationException, IllegalStateException {
        Deck deck = deckAt(part);
        if (deck == null || !isPerson(person) || at < 0 || at > deck.count) {
            throw new IndexOutOfBoundsException("no such person or DECK or place");
        }
        if (!parts.allows(part, person, EDIT)) {
            throw new UnsupportedOperationException("not EDIT");
        }
        if (deck.count >= MOST_SLIDES) {
            throw new IllegalStateException("too many slides");
        }
        deck.insertSlide(at);
        return deck.count;
    }

    public int drop(int person, int part, int slide) throws IndexOutOfBoundsException, UnsupportedOperationException {
        Deck deck = deckAt(part);
        if (deck == null || !isPerson(person) || slide < 0 || slide >= deck.count) {
            throw new IndexOutOfBoundsException("no such person, DECK or slide");
        }
        if (!parts.allows(part, person, EDIT)) {
            throw new UnsupportedOperationException("not EDIT");
        }
        deck.removeSlide(slide);
        return deck.count;
    }

    public int box(int person, int part, int slide, int box, int show, int step) throws IndexOutOfBoundsException, IllegalArgumentException, UnsupportedOperationException {
        Deck deck = deckAt(part);
        if (deck == null || !isPerson(person) || slide < NONE || slide >= deck.count
                || box < 0 || box >= BOXES || show != NONE && !isShow(show)) {
            throw new IndexOutOfBoundsException("no such person, DECK, slide, box or show");
        }
        if (step < 0 || step > MOST_STEP) {
            throw new IllegalArgumentException("no such step");
        }
        if (!parts.allows(part, person, EDIT)) {
            throw new UnsupportedOperationException("not EDIT");
        }
        int at = Deck.boxPlace(slide, box);
        int before = deck.boxes[at];
        deck.boxes[at] = show;
        deck.boxes[at + 1] = step;
        return before;
    }

    // ---- shows

    public int show(int person, int part, int first, int last) throws IndexOutOfBoundsException, UnsupportedOperationException, IllegalStateException {
        Text text = textAt(part);
        boolean isOfText = text != null && text.row.has(first) && text.row.has(last) && last >= first;
        boolean isOfSheet = sheetAt(part) != null && isCell(first) && isCell(last);
        if (!isPerson(person) || !isOfText && !isOfSheet) {
            throw new IndexOutOfBoundsException("no such person, SHEET or TEXT, cell or token");
        }
        if (!parts.allows(part, person, SEE)) {
            throw new UnsupportedOperationException("not SEE");
        }
        if (showCount >= MOST_SHOWS) {
            throw new IllegalStateException("too many shows");
        }
        int number = showCount;
        Window window = windows[number];
        window.firstCell = isOfSheet ? first : NONE;
        window.lastCell = isOfSheet ? last : NONE;
        window.span.begin(part, isOfText ? first : 0, isOfText ? last - first + 1 : 0);
        showCount = number + 1;
        return number;
    }

    public boolean freeze(int person, int show) throws IndexOutOfBoundsException, UnsupportedOperationException {
        if (!isPerson(person) || !isShow(show)) {
            throw new IndexOutOfBoundsException("no such person or show");
        }
        Window window = windows[show];
        if (!parts.allows(window.span.part, person, SEE)) {
            throw new UnsupportedOperationException("not SEE");
        }
        if (!window.isFrozen) {
            drawAlone(NONE, show);
            window.still.copyFrom(strip);
        }
        window.isFrozen = !window.isFrozen;
        return window.isFrozen;
    }

    public int shown(int person, int show) throws IndexOutOfBoundsException {
        if (!isPerson(person) || !isShow(show)) {
            throw new IndexOutOfBoundsException("no such person or show");
        }
        drawAlone(person, show);
        return strip.count;
    }

    public char shownAt(int person, int show, int index) throws IndexOutOfBoundsException {
        if (!isPerson(person) || !isShow(show)) {
            throw new IndexOutOfBoundsException("no such person or show");
        }
        drawAlone(person, show);
        if (index < 0 || index >= strip.count) {
            throw new IndexOutOfBoundsException("no such character");
        }
        return strip.signs[index];
    }

    public int redrawn() {
        int changed = 0;
        for (int i = 0; i < showCount; i++) {
            Window window = windows[i];
            drawAlone(NONE, i);
            if (!window.wasAsked || !window.asked.sameAs(strip)) {
                changed++;
                window.asked.copyFrom(strip);
                window.wasAsked = true;
            }
        }
        return changed;
    }

    // ---- flat texts

    public int flat(int person, int part, int step) throws IndexOutOfBoundsException, IllegalArgumentException, UnsupportedOperationException {
        if (!isPerson(person) || !parts.has(part)) {
            throw new IndexOutOfBoundsException("no such person or part");
        }
        if (step < 0 || step > MOST_STEP) {
            throw new IllegalArgumentException("no such step");
        }
        if (!parts.allows(part, person, SEE)) {
            throw new UnsupportedOperationException("not SEE");
        }
        drawFlat(person, part, step);
        return strip.count;
    }

    public char flatAt(int person, int part, int step, int index) throws IndexOutOfBoundsException, IllegalArgumentException, UnsupportedOperationException {
        if (!isPerson(person) || !parts.has(part)) {
            throw new IndexOutOfBoundsException("no such person or part");
        }
        if (step < 0 || step > MOST_STEP) {
            throw new IllegalArgumentException("no such step");
        }
        if (!parts.allows(part, person, SEE)) {
            throw new UnsupportedOperationException("not SEE");
        }
        drawFlat(person, part, step);
        if (index < 0 || index >= strip.count) {
            throw new IndexOutOfBoundsException("no such character");
        }
        return strip.signs[index];
    }

    public int takeIn(int person, int part, int text) throws IndexOutOfBoundsException, UnsupportedOperationException, IllegalStateException {
        Text target = textAt(text);
        if (target == null || !isPerson(person) || !parts.has(part)) {
            throw new IndexOutOfBoundsException("no such person, part or TEXT");
        }
        if (!parts.allows(part, person, SEE) || !parts.allows(text, person, EDIT)) {
            throw new UnsupportedOperationException("not SEE to the part, or not EDIT to the TEXT");
        }
        target.keep(person);
        boolean fits = target.sendOwn(person);
        if (fits) {
            drawFlat(person, part, MOST_STEP);
            fits = target.refill(person, strip);
        }
        if (!fits) {
            target.goBack(person);
            throw new IllegalStateException("the log would be too long");
        }
        return target.row.count;
    }

    public int change(int person, int letter, int ahead, int to) throws IndexOutOfBoundsException, IllegalArgumentException, IllegalStateException {
        if (!isPerson(person)) {
            throw new IndexOutOfBoundsException("no such person");
        }
        if (!isLetter(letter) || ahead != NONE && !isLetter(ahead) || !isLetter(to)) {
            throw new IllegalArgumentException("no such letter");
        }
        for (int part = 0; part < parts.count; part++) {
            Text text = editable(part, person);
            if (text != null) {
                text.keep(person);
            }
        }
        int changed = changeTexts(person, letter, ahead, to);
        if (changed == NONE) {
            for (int part = 0; part < parts.count; part++) {
                Text text = editable(part, person);
                if (text != null) {
                    text.goBack(person);
                }
            }
            throw new IllegalStateException("a log would be too long");
        }
        return changed;
    }

    // ---- versions

    public int version() throws IllegalStateException {
        if (versionCount >= MOST_VERSIONS) {
            throw new IllegalStateException("too many versions");
        }
        int number = versionCount;
        for (int part = 0; part < parts.count; part++) {
            Sheet sheet = sheets[part];
            Text text = texts[part];
            Deck deck = decks[part];
            if (sheet != null) {
                sheet.remember(number);
            } else if (text != null) {
                text.remember(number);
            } else if (deck != null) {
                deck.remember(number);
            }
        }
        partsThen[number] = parts.count;
        versionCount = number + 1;
        return number;
    }

    public int difference(int one, int other, int part) throws IndexOutOfBoundsException {
        if (one < 0 || one >= versionCount || other < 0 || other >= versionCount || !parts.has(part)) {
            throw new IndexOutOfBoundsException("no such version or part");
        }
        if (part >= partsThen[one] || part >= partsThen[other]) {
            return 0;
        }
        Sheet sheet = sheets[part];
        Text text = texts[part];
        Deck deck = decks[part];
        if (sheet != null) {
            return sheet.otherCells(one, other);
        }
        if (text != null) {
            return text.otherBlocks(one, other);
        }
        return deck == null ? 0 : deck.otherSlides(one, other);
    }

    // ---- macros

    public int line(int kind, int number) throws IllegalArgumentException, IllegalStateException {
        if (!isLine(kind, number)) {
            throw new IllegalArgumentException("no such line");
        }
        if (lineCount >= MOST_LINES) {
            throw new IllegalStateException("too many lines");
        }
        lineKinds[lineCount] = kind;
        lineNumbers[lineCount] = number;
        lineCount++;
        return lineCount;
    }

    public int wipe() {
        int before = lineCount;
        lineCount = 0;
        return before;
    }

    public int run(int person, int sheet, int text) throws IndexOutOfBoundsException, UnsupportedOperationException, IllegalStateException {
        Sheet cells = sheetAt(sheet);
        Text target = textAt(text);
        if (cells == null || target == null || !isPerson(person)) {
            throw new IndexOutOfBoundsException("no such person, SHEET or TEXT");
        }
        if (!parts.allows(sheet, person, EDIT) || !parts.allows(text, person, EDIT)) {
            throw new UnsupportedOperationException("not EDIT to both");
        }
        cells.keep();
        target.keep(person);
        int steps = runLines(person, cells, target);
        if (steps == NONE) {
            cells.goBack();
            target.goBack(person);
            throw new IllegalStateException("the log would be too long");
        }
        values.known = false;
        return steps;
    }

    // ---- what several calls ask

    private static boolean isPerson(int person) {
        return person >= 0 && person < PERSONS;
    }

    private static boolean isCell(int cell) {
        return cell >= 0 && cell < CELLS;
    }

    private static boolean isLetter(int token) {
        return token >= 0 && token < LETTERS;
    }

    private static boolean isBreak(int token) {
        return token >= FIRST_BREAK && token < FIRST_BREAK + SORTS;
    }

    private boolean isField(int token) {
        return token >= FIRST_FIELD && isShow(token - FIRST_FIELD);
    }

    private boolean isShow(int show) {
        return show >= 0 && show < showCount;
    }

    private boolean isComment(int comment) {
        return comment >= 0 && comment < commentCount;
    }

    private Sheet sheetAt(int part) {
        return parts.has(part) ? sheets[part] : null;
    }

    private Text textAt(int part) {
        return parts.has(part) ? texts[part] : null;
    }

    private Deck deckAt(int part) {
        return parts.has(part) ? decks[part] : null;
    }

    /** The TEXT that the part is, if the person has EDIT to it. */
    private Text editable(int part, int person) {
        return parts.allows(part, person, EDIT) ? textAt(part) : null;
    }

    /** What a call answers for a value: its number, its error, or 0. */
    private static int plainNumber(int told) {
        return told == EMPTY ? 0 : told > FAULT ? told - FAULT : told;
    }

    private int sizeByModels(Text text, int sort) {
        Text asked = text;
        for (int i = 0; i < MOST_PARTS && asked != null; i++) {
            if (asked.sizes[sort] != 0) {
                return asked.sizes[sort];
            }
            asked = textAt(asked.model);
        }
        return FIRST_SIZES[sort];
    }

    /** Whether a TEXT is another one, or comes to it by models. */
    private boolean leadsTo(int from, int part) {
        int asked = from;
        for (int i = 0; i <= MOST_PARTS; i++) {
            if (asked == part) {
                return true;
            }
            Text text = textAt(asked);
            if (text == null) {
                return false;
            }
            asked = text.model;
        }
        return true;
    }

    /** How many places were changed, or NONE if a log is too short for it. */
    private int changeTexts(int person, int letter, int ahead, int to) {
        int changed = 0;
        for (int part = 0; part < parts.count; part++) {
            Text text = editable(part, person);
            if (text != null) {
                int places = text.sendOwn(person) ? text.replaceLetters(person, letter, ahead, to) : NONE;
                if (places == NONE) {
                    return NONE;
                }
                changed += places;
            }
        }
        return changed;
    }

    private static boolean isLine(int kind, int number) {
        switch (kind) {
            case WRITE:
            case ADD:
                return number >= -99 && number <= 99;
            case MOVE:
                return number >= 0 && number < CELLS;
            case TYPE:
                return isLetter(number);
            case COUNT:
            case BACK:
                return number >= 0 && number <= 9;
            default:
                return false;
        }
    }

    /** How many steps were done, or NONE if the log is too short for them. */
    private int runLines(int person, Sheet cells, Text target) {
        int cell = 0;
        int count = 0;
        int at = 0;
        for (int steps = 0; steps < MOST_RUN_STEPS; steps++) {
            if (at >= lineCount) {
                return steps;
            }
            int number = lineNumbers[at];
            int next = at + 1;
            switch (lineKinds[at]) {
                case WRITE:
                    cells.fill(cell, NUMBER, number);
                    break;
                case ADD:
                    if (!cells.addTo(cell, number)) {
                        return steps;
                    }
                    break;
                case MOVE:
                    cell = (cell + number) % CELLS;
                    break;
                case TYPE:
                    if (!target.sendOwn(person)) {
                        return NONE;
                    }
                    if (target.row.count >= MOST_TOKENS) {
                        return steps;
                    }
                    if (!target.typeBehind(person, number)) {
                        return NONE;
                    }
                    break;
                case COUNT:
                    count = number;
                    break;
                default:
                    if (count > 0) {
                        count--;
                        next = Math.max(at - number, 0);
                    }
                    break;
            }
            at = next;
        }
        return MOST_RUN_STEPS;
    }

    // ---- what is drawn, into the strip

    /** Draws what a show shows, from the strip's beginning. */
    private void drawAlone(int viewer, int show) {
        values.find();
        strip.clear();
        drawShow(viewer, show, 0);
    }

    /** Draws what a show shows to a viewer; NONE is one who has all rights. FIELDs in a depth above 0 are not drawn. */
    private void drawShow(int viewer, int show, int depth) {
        if (!isShow(show)) {
            return;
        }
        Window window = windows[show];
        int part = window.span.part;
        int start = strip.count;
        if (viewer != NONE && !parts.allows(part, viewer, SEE)) {
            strip.add('#');
        } else if (window.isFrozen) {
            strip.addAll(window.still);
        } else {
            strip.add('<');
            Text text = textAt(part);
            if (text == null) {
                drawCells(part, window.firstCell, window.lastCell, ',');
            } else {
                int end = Math.min(window.span.first + window.span.count, text.row.count);
                for (int i = Math.max(window.span.first, 0); i < end && strip.count - start < MOST_SIGNS; i++) {
                    drawToken(viewer, text.row.tokens[i], depth);
                }
            }
            strip.add('>');
            strip.cutTo(start + MOST_SIGNS);
        }
    }

    private void drawToken(int viewer, int token, int depth) {
        if (isLetter(token)) {
            strip.add((char) ('a' + token));
        } else if (isBreak(token)) {
            strip.add('/');
        } else if (depth > 0) {
            strip.add('@');
        } else {
            drawShow(viewer, token - FIRST_FIELD, depth + 1);
        }
    }

    private void drawCells(int sheet, int first, int last, char betweenRows) {
        int left = Math.min(first % COLUMNS, last % COLUMNS);
        int right = Math.max(first % COLUMNS, last % COLUMNS);
        int top = Math.min(first / COLUMNS, last / COLUMNS);
        int bottom = Math.max(first / COLUMNS, last / COLUMNS);
        for (int y = top; y <= bottom; y++) {
            for (int x = left; x <= right; x++) {
                if (x > left) {
                    strip.add(',');
                } else if (y > top) {
                    strip.add(betweenRows);
                }
                int told = values.told[sheet * CELLS + y * COLUMNS + x];
                if (told > FAULT) {
                    strip.add('!');
                } else if (told != EMPTY) {
                    strip.addNumber(told);
                }
            }
        }
    }

    private void drawFlat(int viewer, int part, int step) {
        values.find();
        strip.clear();
        Text text = textAt(part);
        Deck deck = deckAt(part);
        if (text != null) {
            drawFlatRow(viewer, text.row);
        } else if (deck == null) {
            drawCells(part, 0, CELLS - 1, ';');
        } else {
            for (int slide = 0; slide < deck.count; slide++) {
                strip.add('=');
                for (int box = 0; box < BOXES; box++) {
                    int at = deck.shownBox(slide, box);
                    if (deck.boxes[at + 1] <= step) {
                        drawShow(viewer, deck.boxes[at], 0);
                    }
                }
            }
        }
    }

    private void drawFlatRow(int viewer, Row row) {
        for (int i = 0; i < row.count; i++) {
            if (isBreak(row.tokens[i])) {
                strip.add('.');
                strip.addNumber(row.blockNumber(i));
                strip.add(' ');
            } else {
                drawToken(viewer, row.tokens[i], 0);
            }
        }
    }

    /** The owners of the parts, and the persons' rights to them. */
    private static final class Parts {
        int count;
        final int[] owners = new int[MOST_PARTS];
        final int[] rights = new int[MOST_PARTS * PERSONS];

        boolean has(int part) {
            return part >= 0 && part < count;
        }

        int add(int person) {
            int part = count;
            owners[part] = person;
            rights[part * PERSONS + person] = EDIT;
            count = part + 1;
            return part;
        }

        int rightOf(int part, int person) {
            boolean isThere = part >= 0 && part < count && person >= 0 && person < PERSONS;
            return isThere ? rights[part * PERSONS + person] : NOTHING;
        }

        boolean allows(int part, int person, int least) {
            return rightOf(part, person) >= least;
        }
    }

    /** What the cells of a SHEET have, each as five numbers: what it is, its number or the first SHEET, and cells. */
    private static final class Sheet {
        static final int WIDTH = 5;
        final int[] cells = new int[CELLS * WIDTH];
        final int[] before = new int[CELLS * WIDTH];
        final int[][] versions = new int[MOST_VERSIONS][CELLS * WIDTH];

        void fill(int cell, int sort, int number) {
            cells[cell * WIDTH] = sort;
            cells[cell * WIDTH + 1] = number;
            fillCells(cell, 0, 0, 0);
        }

        void fillCells(int cell, int first, int other, int second) {
            cells[cell * WIDTH + 2] = first;
            cells[cell * WIDTH + 3] = other;
            cells[cell * WIDTH + 4] = second;
        }

        boolean addTo(int cell, int number) {
            int sum = cells[cell * WIDTH + 1] + number;
            if (sortOf(cell) >= FORMULA || sum < -MOST_NUMBER || sum > MOST_NUMBER) {
                return false;
            }
            fill(cell, NUMBER, sum);
            return true;
        }

        int sortOf(int cell) {
            return cells[cell * WIDTH];
        }

        void keep() {
            System.arraycopy(cells, 0, before, 0, cells.length);
        }

        void goBack() {
            System.arraycopy(before, 0, cells, 0, cells.length);
        }

        void remember(int number) {
            System.arraycopy(cells, 0, versions[number], 0, cells.length);
        }

        int otherCells(int one, int other) {
            int differing = 0;
            for (int cell = 0; cell < CELLS; cell++) {
                boolean same = true;
                for (int i = cell * WIDTH; i < (cell + 1) * WIDTH; i++) {
                    same &= versions[one][i] == versions[other][i];
                }
                differing += same ? 0 : 1;
            }
            return differing;
        }
    }

    /** The values of all cells, found in rounds when they are asked and something has changed since. */
    private static final class Values {
        /** By the rights to them other SHEETs are hidden. */
        final Parts parts = new Parts();
        final Sheet[] sheets = new Sheet[MOST_PARTS];
        /** Those of all cells, by parts, then cells; of a blank one what spills into it. */
        final int[] told = new int[MOST_PARTS * CELLS];
        /** How many cells a LIST fills; 0 with an error, which has no count. */
        private final int[] counts = new int[MOST_PARTS * CELLS];
        boolean known;
        int roundCount;

        void find() {
            if (known) {
                return;
            }
            begin();
            boolean moved = true;
            roundCount = 0;
            for (int i = 0; i < MOST_ROUNDS && moved; i++) {
                moved = goThrough();
                roundCount++;
            }
            known = true;
        }

        private void begin() {
            for (int i = 0; i < told.length; i++) {
                Sheet sheet = sheets[i / CELLS];
                told[i] = sheet == null ? EMPTY : atFirst(sheet, i % CELLS);
                counts[i] = 1;
            }
        }

        private static int atFirst(Sheet sheet, int cell) {
            int sort = sheet.sortOf(cell);
            return sort == BLANK ? EMPTY : sort == NUMBER ? sheet.cells[cell * Sheet.WIDTH + 1] : 0;
        }

        /** One round; whether a value or a count became another one. */
        private boolean goThrough() {
            boolean moved = false;
            for (int part = 0; part < parts.count; part++) {
                Sheet sheet = sheets[part];
                for (int cell = 0; sheet != null && cell < CELLS; cell++) {
                    if (sheet.sortOf(cell) >= FORMULA) {
                        moved |= findFormula(sheet, part, cell);
                    }
                }
            }
            return moved;
        }

        private boolean findFormula(Sheet sheet, int part, int cell) {
            int slot = part * CELLS + cell;
            int at = cell * Sheet.WIDTH;
            int first = sheet.cells[at + 1];
            int kind = sheet.cells[at] - FORMULA;
            int found;
            int count = 1;
            if (kind == SUM) {
                found = sum(part, first, sheet.cells[at + 2], sheet.cells[at + 4]);
            } else if (kind == LIST) {
                int asked = listCount(sheet, cell, readFrom(part, first, sheet.cells[at + 2]));
                found = asked > FAULT ? asked : 1;
                count = asked > FAULT ? 0 : asked;
            } else {
                found = ofTwo(kind, readFrom(part, first, sheet.cells[at + 2]),
                        readFrom(part, sheet.cells[at + 3], sheet.cells[at + 4]));
            }
            boolean moved = told[slot] != found || counts[slot] != count;
            told[slot] = found;
            counts[slot] = count;
            if (moved && kind == LIST) {
                spill(sheet, part, cell, count);
            }
            return moved;
        }

        private static int ofTwo(int kind, int one, int other) {
            if (one > FAULT) {
                return one;
            }
            if (other > FAULT) {
                return other;
            }
            long first = one == EMPTY ? 0 : one;
            long second = other == EMPTY ? 0 : other;
            return within(kind == PLUS ? first + second : kind == MINUS ? first - second : first * second);
        }

        private static int within(long number) {
            return number > MOST_VALUE || number < -MOST_VALUE ? FAULT + OVER : (int) number;
        }

        private int sum(int part, int sheet, int first, int last) {
            int left = Math.min(first % COLUMNS, last % COLUMNS);
            int right = Math.max(first % COLUMNS, last % COLUMNS);
            int top = Math.min(first / COLUMNS, last / COLUMNS);
            int bottom = Math.max(first / COLUMNS, last / COLUMNS);
            long sum = 0;
            for (int y = top; y <= bottom; y++) {
                for (int x = left; x <= right; x++) {
                    int one = readFrom(part, sheet, y * COLUMNS + x);
                    if (one > FAULT) {
                        return one;
                    }
                    sum += one == EMPTY ? 0 : one;
                }
            }
            return within(sum);
        }

        /** How many cells a LIST fills, or an error. */
        private static int listCount(Sheet sheet, int cell, int asked) {
            if (asked > FAULT) {
                return asked;
            }
            if (asked == EMPTY || asked < 1 || asked > MOST_LISTED) {
                return FAULT + OVER;
            }
            for (int i = 1; i < asked; i++) {
                int below = cell + i * COLUMNS;
                if (below >= CELLS || sheet.sortOf(below) != BLANK) {
                    return FAULT + BLOCKED;
                }
            }
            return asked;
        }

        /** The blank cells right below a LIST show what it spills, or nothing. */
        private void spill(Sheet sheet, int part, int cell, int count) {
            for (int i = 1; i < ROWS; i++) {
                int below = cell + i * COLUMNS;
                if (below >= CELLS || sheet.sortOf(below) != BLANK) {
                    return;
                }
                told[part * CELLS + below] = i < count ? i + 1 : EMPTY;
            }
        }

        /** The value of a cell as a formula of a part has it. */
        private int readFrom(int part, int sheet, int cell) {
            if (sheet < 0 || sheet >= MOST_PARTS || !isCell(cell)) {
                return EMPTY;
            }
            boolean isHidden = parts.rightOf(sheet, parts.owners[part]) == NOTHING;
            return isHidden ? FAULT + HIDDEN : told[sheet * CELLS + cell];
        }
    }

    /** One edit, of a log or not sent, or one that is being turned. */
    private static final class Edit {
        int kind;
        int place;
        /** What it puts in; of one in a log what it took out, too. */
        int token;
        int person;
        boolean isUndo;
        boolean isUndone;

        void begin(int newKind, int newPlace, int newToken, int newPerson) {
            kind = newKind;
            place = newPlace;
            token = newToken;
            person = newPerson;
            isUndo = false;
            isUndone = false;
        }

        void become(Edit other) {
            kind = other.kind;
            place = other.place;
            token = other.token;
            person = other.person;
            isUndo = other.isUndo;
            isUndone = other.isUndone;
        }

        /** Becomes what takes another one back. */
        void becomeBack(Edit other) {
            begin(other.kind == PUTS ? TAKES : other.kind == TAKES ? PUTS : VOID, other.place, other.token, other.person);
        }

        void turnBy(Edit by) {
            if (kind == VOID || by.kind == VOID) {
                return;
            }
            if (by.kind == PUTS) {
                if (by.place < place || by.place == place && (kind == TAKES || by.person <= person)) {
                    place++;
                }
            } else if (by.place < place) {
                place--;
            } else if (by.place == place && kind == TAKES) {
                kind = VOID;
            }
        }
    }

    /** A row of tokens. */
    private static final class Row {
        final int[] tokens;
        int count;

        Row(int most) {
            tokens = new int[Math.max(most, 0)];
        }

        boolean has(int place) {
            return place >= 0 && place < count;
        }

        void copyFrom(Row other) {
            count = Math.min(other.count, tokens.length);
            System.arraycopy(other.tokens, 0, tokens, 0, count);
        }

        /** Does an edit. */
        void follow(Edit edit) {
            if (edit.kind == PUTS && count < tokens.length && edit.place >= 0 && edit.place <= count) {
                System.arraycopy(tokens, edit.place, tokens, edit.place + 1, count - edit.place);
                tokens[edit.place] = edit.token;
                count++;
            } else if (edit.kind == TAKES && has(edit.place)) {
                System.arraycopy(tokens, edit.place + 1, tokens, edit.place, count - edit.place - 1);
                count--;
            }
        }

        int blockNumber(int place) {
            int heads = 0;
            int subs = 0;
            int remarks = 0;
            int number = 0;
            for (int i = 0; i <= place && i < count; i++) {
                switch (tokens[i] - FIRST_BREAK) {
                    case HEAD:
                        heads++;
                        subs = 0;
                        number = 100 * heads;
                        break;
                    case SUB:
                        subs++;
                        number = 100 * heads + subs;
                        break;
                    case BODY:
                        number = 0;
                        break;
                    case REMARK:
                        remarks++;
                        number = remarks;
                        break;
                    default:
                        break;
                }
            }
            return number;
        }

        /** Whether a block begins with the BREAK at a place, or, at NONE, without one. */
        boolean beginsBlock(int place) {
            return place == NONE ? count > 0 && !isBreak(tokens[0]) : has(place) && isBreak(tokens[place]);
        }

        /** How many tokens a block has, its BREAK not being one of them. */
        private int blockLength(int begun) {
            int at = begun + 1;
            while (at < count && !isBreak(tokens[at])) {
                at++;
            }
            return at - begun - 1;
        }

        boolean sameBlock(int begun, Row other, int otherBegun) {
            int length = blockLength(begun);
            if (other.blockLength(otherBegun) != length || sortAt(begun) != other.sortAt(otherBegun)) {
                return false;
            }
            for (int i = 1; i <= length; i++) {
                if (tokens[begun + i] != other.tokens[otherBegun + i]) {
                    return false;
                }
            }
            return true;
        }

        private int sortAt(int begun) {
            return has(begun) ? tokens[begun] - FIRST_BREAK : BODY;
        }
    }

    /** What a person has of a TEXT: how much of its log was seen, the row behind that, and the edits not sent. */
    private static final class Seat {
        int seen;
        final Row base = new Row(MOST_TOKENS);
        final Edit[] own = new Edit[MOST_OWN];
        int count;

        Seat() {
            for (int i = 0; i < own.length; i++) {
                own[i] = new Edit();
            }
        }

        void copyFrom(Seat other) {
            seen = other.seen;
            base.copyFrom(other.base);
            count = other.count;
            for (int i = 0; i < own.length; i++) {
                own[i].become(other.own[i]);
            }
        }
    }

    /** Tokens of the row of a TEXT, one behind the other, which move with its edits. */
    private static final class Span {
        int part = NONE;
        int first;
        int count;
        boolean isOpen;
        private int firstBefore;
        private int countBefore;
        private boolean wasOpen;

        void begin(int newPart, int newFirst, int newCount) {
            part = newPart;
            first = newFirst;
            count = newCount;
            isOpen = true;
        }

        void moveBy(Edit edit) {
            if (edit.kind == PUTS) {
                if (edit.place <= first) {
                    first++;
                } else if (edit.place < first + count) {
                    count++;
                }
            } else if (edit.kind == TAKES) {
                if (edit.place < first) {
                    first--;
                } else if (edit.place < first + count) {
                    count--;
                    isOpen = isOpen && count > 0;
                }
            }
        }

        void keep() {
            firstBefore = first;
            countBefore = count;
            wasOpen = isOpen;
        }

        void goBack() {
            first = firstBefore;
            count = countBefore;
            isOpen = wasOpen;
        }
    }

    /** A TEXT: its log, its row, and what each person has of it. */
    private static final class Text {
        final int number;
        final Span[] spans;
        final Edit[] edits = new Edit[MOST_EDITS];
        int editCount;
        final Row row = new Row(MOST_TOKENS);
        final Seat[] seats = new Seat[PERSONS];
        final int[] sizes = new int[SORTS];
        int model = NONE;
        final Row[] versions = new Row[MOST_VERSIONS];
        /** What is used again by each call. */
        private final Row drawn = new Row(MOST_TOKENS + MOST_OWN);
        private final Edit made = new Edit();
        private final Edit coming = new Edit();
        private final Edit was = new Edit();
        /** What there was ahead of a call that may be refused when a part of it is done. */
        private final Row rowBefore = new Row(MOST_TOKENS);
        private final Seat seatBefore = new Seat();
        private int countBefore;

        Text(int number, Span[] spans) {
            this.number = number;
            this.spans = spans;
            for (int i = 0; i < edits.length; i++) {
                edits[i] = new Edit();
            }
            for (int i = 0; i < seats.length; i++) {
                seats[i] = new Seat();
            }
            for (int i = 0; i < versions.length; i++) {
                versions[i] = new Row(MOST_TOKENS);
            }
        }

        boolean hasRoom(int more) {
            return editCount + more <= MOST_EDITS;
        }

        Row viewOf(int person) {
            Seat seat = seats[person];
            drawn.copyFrom(seat.base);
            for (int i = 0; i < seat.count; i++) {
                drawn.follow(seat.own[i]);
            }
            return drawn;
        }

        Row rowByLog() {
            drawn.count = 0;
            for (int i = 0; i < editCount; i++) {
                drawn.follow(edits[i]);
            }
            return drawn;
        }

        /** Makes an own edit. */
        int edit(int person, int kind, int place, int token) {
            Seat seat = seats[person];
            if (seat.count < seat.own.length) {
                seat.own[seat.count].begin(kind, place, token, person);
                seat.count++;
            }
            return seat.count;
        }

        void seeNext(int person) {
            Seat seat = seats[person];
            if (seat.seen < editCount) {
                coming.become(edits[seat.seen]);
                seat.base.follow(coming);
                turnOwn(seat, 0);
                seat.seen++;
            }
        }

        /** Turns own edits, from one on, by the one that comes, and that by each of them as it was. */
        private void turnOwn(Seat seat, int from) {
            for (int i = from; i < seat.count; i++) {
                was.become(seat.own[i]);
                seat.own[i].turnBy(coming);
                coming.turnBy(was);
            }
        }

        /** Whether the log is long enough for it; otherwise nothing is sent. */
        boolean sendOwn(int person) {
            Seat seat = seats[person];
            if (!hasRoom(seat.count)) {
                return false;
            }
            for (int i = seat.seen; i < editCount; i++) {
                seeNext(person);
            }
            for (int i = 0; i < seat.count; i++) {
                Edit edit = seat.own[i];
                if (edit.kind == PUTS && row.count >= MOST_TOKENS) {
                    coming.becomeBack(edit);
                    edit.kind = VOID;
                    turnOwn(seat, i + 1);
                }
                append(edit);
            }
            seat.count = 0;
            catchUp(seat);
            return true;
        }

        private void append(Edit edit) {
            if (editCount >= edits.length) {
                return;
            }
            Edit last = edits[editCount];
            last.become(edit);
            if (edit.kind == TAKES && row.has(edit.place)) {
                last.token = row.tokens[edit.place];
            }
            editCount++;
            row.follow(edit);
            for (int i = 0; i < spans.length; i++) {
                if (spans[i].part == number) {
                    spans[i].moveBy(edit);
                }
            }
        }

        private void catchUp(Seat seat) {
            seat.seen = editCount;
            seat.base.copyFrom(row);
        }

        /** An edit by one who has seen all, and has no own edits. */
        private void appendMade(int person, int kind, int place, int token) {
            made.begin(kind, place, token, person);
            append(made);
        }

        int latestToUndo(int person) {
            for (int i = editCount - 1; i >= 0; i--) {
                Edit edit = edits[i];
                if (edit.person == person && edit.kind != VOID && !edit.isUndo && !edit.isUndone) {
                    return i;
                }
            }
            return NONE;
        }

        /** Whether the row has become another one. */
        boolean undoEdit(int person, int at) {
            made.becomeBack(edits[at]);
            made.isUndo = true;
            for (int i = at + 1; i < editCount; i++) {
                made.turnBy(edits[i]);
            }
            if (made.kind == PUTS && row.count >= MOST_TOKENS) {
                made.kind = VOID;
            }
            edits[at].isUndone = true;
            append(made);
            catchUp(seats[person]);
            return made.kind != VOID;
        }

        void replaceTokens(int person, Span span, int token) {
            int first = span.first;
            for (int i = first + span.count - 1; i >= first; i--) {
                appendMade(person, TAKES, i, NONE);
            }
            appendMade(person, PUTS, first, token);
            catchUp(seats[person]);
        }

        /** How many places were changed, or NONE if the log is too short for it. */
        int replaceLetters(int person, int letter, int ahead, int to) {
            long found = 0;
            for (int i = 0; i + 1 < row.count; i++) {
                int behind = row.tokens[i + 1];
                if (row.tokens[i] == letter && (ahead == NONE ? isLetter(behind) : behind == ahead)) {
                    found |= 1L << i;
                }
            }
            int places = Long.bitCount(found);
            if (!hasRoom(2 * places)) {
                return NONE;
            }
            for (int i = row.count - 1; i >= 0; i--) {
                if ((found >> i & 1L) != 0) {
                    appendMade(person, TAKES, i, NONE);
                    appendMade(person, PUTS, i, to);
                }
            }
            catchUp(seats[person]);
            return places;
        }

        /** Whether the log is long enough for it; otherwise nothing is taken in. */
        boolean refill(int person, Strip flatText) {
            int tokens = 0;
            for (int i = 0; i < flatText.count && tokens < MOST_TOKENS; i++) {
                tokens += tokenOf(flatText.signs[i]) == NONE ? 0 : 1;
            }
            if (!hasRoom(row.count + tokens)) {
                return false;
            }
            for (int i = row.count - 1; i >= 0; i--) {
                appendMade(person, TAKES, i, NONE);
            }
            for (int i = 0; i < flatText.count && row.count < MOST_TOKENS; i++) {
                int token = tokenOf(flatText.signs[i]);
                if (token != NONE) {
                    appendMade(person, PUTS, row.count, token);
                }
            }
            catchUp(seats[person]);
            return true;
        }

        /** What a character of a flat text is taken in as, or NONE. */
        private static int tokenOf(char sign) {
            if (sign >= 'a' && sign <= 'z') {
                return sign - 'a';
            }
            return sign == '.' || sign == ';' || sign == '=' ? FIRST_BREAK + BODY : NONE;
        }

        /** Whether the log is long enough for it. */
        boolean typeBehind(int person, int letter) {
            if (!hasRoom(1)) {
                return false;
            }
            appendMade(person, PUTS, row.count, letter);
            catchUp(seats[person]);
            return true;
        }

        void keep(int person) {
            rowBefore.copyFrom(row);
            seatBefore.copyFrom(seats[person]);
            countBefore = editCount;
            for (int i = 0; i < spans.length; i++) {
                if (spans[i].part == number) {
                    spans[i].keep();
                }
            }
        }

        void goBack(int person) {
            row.copyFrom(rowBefore);
            seats[person].copyFrom(seatBefore);
            editCount = countBefore;
            for (int i = 0; i < spans.length; i++) {
                if (spans[i].part == number) {
                    spans[i].goBack();
                }
            }
        }

        void remember(int version) {
            versions[version].copyFrom(row);
        }

        int otherBlocks(int one, int other) {
            Row first = versions[one];
            Row second = versions[other];
            int differing = 0;
            long met = 0;
            for (int i = NONE; i < first.count; i++) {
                if (first.beginsBlock(i)) {
                    int same = equalBlock(first, i, second, met);
                    if (same < second.count) {
                        met |= 1L << same + 1;
                    } else {
                        differing++;
                    }
                }
            }
            for (int i = NONE; i < second.count; i++) {
                if (second.beginsBlock(i) && (met >> i + 1 & 1L) == 0) {
                    differing++;
                }
            }
            return differing;
        }

        /** Where an equal block begins in another row, of those that are not met, or the length. */
        private static int equalBlock(Row row, int begun, Row other, long met) {
            for (int i = NONE; i < other.count; i++) {
                if (other.beginsBlock(i) && (met >> i + 1 & 1L) == 0 && row.sameBlock(begun, other, i)) {
                    return i;
                }
            }
            return other.count;
        }
    }

    /** A DECK: the boxes of the master, then of the slides, each as its show and its step. */
    private static final class Deck {
        static final int WIDTH = BOXES * 2;
        final int[] boxes = new int[(MOST_SLIDES + 1) * WIDTH];
        int count;
        private final int[][] versions = new int[MOST_VERSIONS][(MOST_SLIDES + 1) * WIDTH];
        private final int[] versionCounts = new int[MOST_VERSIONS];

        Deck() {
            for (int i = 0; i < boxes.length; i += 2) {
                boxes[i] = NONE;
            }
        }

        /** Where a box is; NONE is the master. */
        static int boxPlace(int slide, int box) {
            return (slide + 1) * WIDTH + box * 2;
        }

        /** Where the box is that a box of a slide shows: itself, or that of the master. */
        int shownBox(int slide, int box) {
            int at = boxPlace(slide, box);
            return boxes[at] == NONE ? boxPlace(NONE, box) : at;
        }

        void insertSlide(int at) {
            int from = boxPlace(at, 0);
            if (count >= MOST_SLIDES || from < WIDTH || from > boxPlace(count, 0)) {
                return;
            }
            System.arraycopy(boxes, from, boxes, from + WIDTH, boxPlace(count, 0) - from);
            for (int i = from; i < from + WIDTH; i += 2) {
                boxes[i] = NONE;
                boxes[i + 1] = 0;
            }
            count++;
        }

        void removeSlide(int at) {
            int from = boxPlace(at, 0);
            if (from < WIDTH || from >= boxPlace(count, 0)) {
                return;
            }
            System.arraycopy(boxes, from + WIDTH, boxes, from, boxPlace(count, 0) - from - WIDTH);
            count--;
        }

        void remember(int version) {
            System.arraycopy(boxes, 0, versions[version], 0, boxes.length);
            versionCounts[version] = count;
        }

        int otherSlides(int one, int other) {
            int both = Math.min(versionCounts[one], versionCounts[other]);
            int differing = Math.max(versionCounts[one], versionCounts[other]) - both;
            for (int slide = NONE; slide < both; slide++) {
                boolean same = true;
                for (int i = boxPlace(slide, 0); i < boxPlace(slide + 1, 0); i++) {
                    same &= versions[one][i] == versions[other][i];
                }
                differing += same ? 0 : 1;
            }
            return differing;
        }
    }

    /** A show: of cells of a SHEET, or of a span of a TEXT. */
    private static final class Window {
        final Span span = new Span();
        int firstCell = NONE;
        int lastCell = NONE;
        boolean isFrozen;
        /** What it showed when it was frozen. */
        final Strip still = new Strip(MOST_SIGNS);
        boolean wasAsked;
        /** What it showed when that was asked last. */
        final Strip asked = new Strip(MOST_SIGNS);
    }

    /** Characters, up to a limit. */
    private static final class Strip {
        final char[] signs;
        int count;

        Strip(int most) {
            signs = new char[Math.max(most, 0)];
        }

        void clear() {
            count = 0;
        }

        void add(char sign) {
            if (count < signs.length) {
                signs[count] = sign;
                count++;
            }
        }

        void addAll(Strip other) {
            for (int i = 0; i < other.count; i++) {
                add(other.signs[i]);
            }
        }

        void addNumber(int number) {
            int rest = number;
            if (rest < 0) {
                add('-');
                rest = -rest;
            }
            int scale = 1;
            for (int i = 0; i < 9 && rest / scale >= 10; i++) {
                scale *= 10;
            }
            for (int i = 0; i < 10 && scale > 0; i++) {
                add((char) ('0' + rest / scale % 10));
                scale /= 10;
            }
        }

        void cutTo(int most) {
            count = Math.min(count, most);
        }

        void copyFrom(Strip other) {
            clear();
            addAll(other);
        }

        boolean sameAs(Strip other) {
            if (count != other.count) {
                return false;
            }
            for (int i = 0; i < count; i++) {
                if (signs[i] != other.signs[i]) {
                    return false;
                }
            }
            return true;
        }
    }
}
