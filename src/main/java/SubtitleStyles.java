/** Subtitles with styles. ../shared/DOC.md says what each call answers. */
public final class SubtitleStyles {

    public static final int BAD = -1;
    public static final int STATE = -2;
    public static final int FULL = -3;
    public static final int NONE = -9;

    /** What stands for "none" among arguments and kept numbers; NONE is an answer only. */
    private static final int NOTHING = -1;

    private static final int MOST_STYLES = 10;
    private static final int MOST_LINES = 16;
    private static final int MOST_SIGNS = 80;
    private static final int MOST_STATES = 5;
    private static final int LAST_TIME = 100000;
    private static final int LONGEST_SYLLABLE = 9999;
    /** A tag "{k0}" takes four of the characters. */
    private static final int MOST_SYLLABLES = MOST_SIGNS / 4;
    private static final int TEXT_ERROR = -100;
    private static final int MOST_DIGITS = 4;

    private static final int PROPERTIES = 6;
    private static final int SIZE = 0;
    private static final int COLOR = 1;
    private static final int SUNG_COLOR = 2;
    private static final int BOLD = 3;
    private static final int GROUP = 4;
    private static final int MARGIN = 5;
    /** The properties before this one are those of a sign; tags can set them. */
    private static final int SIGN_PROPERTIES = 4;
    private static final int[] BASIC = {20, 7, 1, 0, 0, 10};
    private static final int[] LEAST = {1, 0, 0, 0, 0, 0};
    private static final int[] GREATEST = {99, 7, 7, 1, 2, 200};

    private static final int SIGN_NUMBERS = 6;
    private static final int SIGN_CODE = 0;
    /** The property p of a sign is its number p + 1. */
    private static final int SIGN_VALUES = 1;
    private static final int SIGN_SYLLABLE = 5;
    private static final int SYLLABLE_NUMBERS = 3;
    private static final int STYLE_NUMBERS = 9;
    private static final int LINE_NUMBERS = 12;

    /** A sign among the kinds of items of a text; the kind of a tag is its letter. */
    private static final int SIGN_ITEM = 0;
    private static final int RESET_ITEM = 'r';
    private static final int SYLLABLE_ITEM = 'k';

    private final Row buffer;
    private int typed;
    private final Reader reader;
    private final Screen screen;
    private final History history;
    /** Always drawn anew after the screen has changed, so that questions only look it up. */
    private final Picture picture;
    private final Sheet flatSheet;
    private final Look flatLook;

    public SubtitleStyles() {
        buffer = new Row(MOST_SIGNS);
        typed = 0;
        reader = new Reader();
        screen = new Screen();
        history = new History();
        picture = new Picture();
        flatSheet = new Sheet();
        flatLook = new Look();
    }

    // ---- styles

    public int style(int parent) {
        Sheet sheet = screen.sheet;
        if (!sheet.hasOrNothing(parent)) {
            return BAD;
        }
        if (sheet.count >= MOST_STYLES) {
            return FULL;
        }
        history.keep(screen);
        sheet.add(parent);
        picture.draw(screen);
        return sheet.count - 1;
    }

    public int setParent(int style, int parent) {
        Sheet sheet = screen.sheet;
        if (!sheet.has(style) || !sheet.hasOrNothing(parent)) {
            return BAD;
        }
        if (sheet.leadsTo(parent, style)) {
            return STATE;
        }
        history.keep(screen);
        int previous = sheet.parents.get(style);
        sheet.parents.set(style, parent);
        picture.draw(screen);
        return previous;
    }

    public int setStyle(int style, int property, int value) {
        Sheet sheet = screen.sheet;
        if (!sheet.has(style) || !isProperty(property)) {
            return BAD;
        }
        if (value != NOTHING && !allows(property, value)) {
            return BAD;
        }
        history.keep(screen);
        int previous = sheet.ownValue(style, property);
        sheet.setOwnValue(style, property, value);
        picture.draw(screen);
        return previous;
    }

    public int unstyle() {
        Sheet sheet = screen.sheet;
        int last = sheet.count - 1;
        if (last < 0 || sheet.childrenOf(last) > 0 || screen.hasLineOfStyle(last)) {
            return STATE;
        }
        history.keep(screen);
        sheet.dropLast();
        picture.draw(screen);
        return sheet.count;
    }

    public int flatten() {
        history.keep(screen);
        int added = screen.sheet.makeFlat();
        picture.draw(screen);
        return added;
    }

    public int styleAt(int style, int what) {
        Sheet sheet = screen.sheet;
        if (!sheet.has(style)) {
            return BAD;
        }
        if (isProperty(what)) {
            return sheet.ownValue(style, what);
        }
        switch (what) {
            case 6:
                return sheet.parents.get(style);
            case 7:
                return sheet.ancestorsOf(style);
            case 8:
                return sheet.childrenOf(style);
            default:
                return BAD;
        }
    }

    public int valueOf(int style, int property) {
        if (!screen.sheet.hasOrNothing(style) || !isProperty(property)) {
            return BAD;
        }
        return screen.sheet.valueIn(style, property);
    }

    public int from(int style, int property) {
        if (!screen.sheet.has(style) || !isProperty(property)) {
            return BAD;
        }
        return screen.sheet.sourceOf(style, property);
    }

    public int styles() {
        return screen.sheet.count;
    }

    // ---- lines

    public int type(int c) {
        if (c < 32 || c > 126) {
            return BAD;
        }
        if (typed >= MOST_SIGNS) {
            return FULL;
        }
        buffer.set(typed, c);
        typed++;
        return typed;
    }

    public int clear() {
        int had = typed;
        typed = 0;
        return had;
    }

    public int line(int begin, int end, int style) {
        if (begin < 0 || end <= begin || end > LAST_TIME || !screen.sheet.hasOrNothing(style)) {
            return BAD;
        }
        if (screen.count >= MOST_LINES) {
            return FULL;
        }
        int errorPlace = reader.read(buffer, typed);
        if (errorPlace >= 0) {
            return TEXT_ERROR - errorPlace;
        }
        history.keep(screen);
        Text text = new Text(reader.kinds, reader.numbers, reader.size);
        screen.addLine(new Line(begin, end, style, NOTHING, text));
        typed = 0;
        picture.draw(screen);
        return screen.count - 1;
    }

    public int remove(int line) {
        if (screen.lineAt(line) == null) {
            return BAD;
        }
        history.keep(screen);
        screen.dropLine(line);
        picture.draw(screen);
        return screen.count;
    }

    public int change(int line, int what, int value) {
        Line old = screen.lineAt(line);
        if (old == null || !isChange(what, value)) {
            return BAD;
        }
        history.keep(screen);
        screen.putLine(line, what == 0 ? old.withStyle(value) : old.withMargin(value));
        picture.draw(screen);
        return what == 0 ? old.style : old.margin;
    }

    private boolean isChange(int what, int value) {
        if (what == 0) {
            return screen.sheet.hasOrNothing(value);
        }
        return what == 1 && (value == NOTHING || allows(MARGIN, value));
    }

    public int shift(int line, int by) {
        Line old = screen.lineAt(line);
        if (old == null || by < -LAST_TIME || by > LAST_TIME) {
            return BAD;
        }
        if (old.begin + by < 0 || old.end + by > LAST_TIME) {
            return STATE;
        }
        history.keep(screen);
        screen.putLine(line, old.movedBy(by));
        picture.draw(screen);
        return old.begin + by;
    }

    public int setHeight(int height) {
        if (height < 50 || height > 2000) {
            return BAD;
        }
        history.keep(screen);
        int previous = screen.height;
        screen.height = height;
        return previous;
    }

    public int about(int line, int what) {
        Line known = screen.lineAt(line);
        Look look = picture.lookAt(line);
        if (known == null || look == null) {
            return BAD;
        }
        switch (what) {
            case 0:
                return known.begin;
            case 1:
                return known.end;
            case 2:
                return known.style;
            case 3:
                return known.margin;
            case 4:
                return look.signs;
            case 5:
                return look.syllables;
            case 6:
                return look.lasting;
            case 7:
                return look.lasting <= known.end - known.begin ? 1 : 0;
            case 8:
                return look.height;
            case 9:
                return look.offset;
            case 10:
                return look.group;
            case 11:
                return look.offset + look.height > screen.height ? 1 : 0;
            default:
                return BAD;
        }
    }

    public int lines() {
        return screen.count;
    }

    public int sign(int line, int sign, int what) {
        Look look = picture.lookAt(line);
        if (look == null || !look.hasSign(sign) || what < 0 || what >= SIGN_NUMBERS) {
            return BAD;
        }
        return look.signNumber(sign, what);
    }

    public int syllable(int line, int syllable, int what) {
        Look look = picture.lookAt(line);
        if (look == null || !look.hasSyllable(syllable) || what < 0 || what >= SYLLABLE_NUMBERS) {
            return BAD;
        }
        return look.syllableNumber(syllable, what);
    }

    public int fit(int line) {
        Line old = screen.lineAt(line);
        Look look = picture.lookAt(line);
        if (old == null || look == null) {
            return BAD;
        }
        int last = look.syllables - 1;
        if (last < 0) {
            return STATE;
        }
        int others = look.lasting - look.syllableNumber(last, 1);
        int lasts = old.end - old.begin - others;
        if (lasts < 0 || lasts > LONGEST_SYLLABLE) {
            return STATE;
        }
        history.keep(screen);
        screen.putLine(line, old.withText(old.text.withLastSyllable(lasts)));
        picture.draw(screen);
        return lasts;
    }

    // ---- at a time

    public int shows(int line, int sign, int time) {
        Look look = picture.lookAt(line);
        if (look == null || !look.hasSign(sign)) {
            return BAD;
        }
        if (!look.isShownAt(time)) {
            return NONE;
        }
        int property = look.isSungAt(sign, time) ? SUNG_COLOR : COLOR;
        return look.signNumber(sign, SIGN_VALUES + property);
    }

    public int shown(int time, int i) {
        if (i < 0) {
            return BAD;
        }
        for (int line = 0; line < screen.count; line++) {
            if (picture.isShownAt(line, time) && picture.countAhead(line, time) == i) {
                return line;
            }
        }
        return NONE;
    }

    public int crowd() {
        int best = NONE;
        int most = 0;
        // As a line is added only at a beginning, the first time with most lines is one.
        for (int line = 0; line < screen.count; line++) {
            int begin = picture.beginOf(line);
            int count = picture.countShownAt(begin);
            if (count > most || count == most && begin < best) {
                most = count;
                best = begin;
            }
        }
        return best;
    }

    public float sung(int time) {
        int all = 0;
        int lit = 0;
        for (int line = 0; line < screen.count; line++) {
            Look look = picture.lookAt(line);
            if (look != null && look.isShownAt(time)) {
                all += look.signs;
                lit += look.countSungAt(time);
            }
        }
        return all == 0 ? 0f : (float) lit / (float) all;
    }

    public int unlike() {
        flatSheet.copy(screen.sheet);
        flatSheet.makeFlat();
        int count = 0;
        for (int i = 0; i < screen.count; i++) {
            Line line = screen.lineAt(i);
            Look look = picture.lookAt(i);
            if (line != null && look != null) {
                flatLook.read(line, flatSheet);
                count += look.countUnlike(flatLook);
            }
        }
        return count;
    }

    // ---- history

    public int undo() {
        if (history.count <= 0) {
            return NONE;
        }
        history.restore(screen);
        picture.draw(screen);
        return history.count;
    }

    public long fingerprint() {
        long print = mix(233L, styles());
        for (int style = 0; style < screen.sheet.count; style++) {
            print = mixStyle(print, style);
        }
        print = mix(print, lines());
        for (int line = 0; line < screen.count; line++) {
            print = mixLine(print, line);
        }
        print = mix(print, crowd());
        return mix(print, unlike());
    }

    private static long mix(long print, int number) {
        return 31L * print + number;
    }

    private long mixStyle(long before, int style) {
        long print = before;
        for (int what = 0; what < STYLE_NUMBERS; what++) {
            print = mix(print, styleAt(style, what));
        }
        for (int property = 0; property < PROPERTIES; property++) {
            print = mix(print, valueOf(style, property));
        }
        return print;
    }

    private long mixLine(long before, int line) {
        long print = before;
        for (int what = 0; what < LINE_NUMBERS; what++) {
            print = mix(print, about(line, what));
        }
        int signs = about(line, 4);
        for (int sign = 0; sign < signs; sign++) {
            for (int what = 0; what < SIGN_NUMBERS; what++) {
                print = mix(print, sign(line, sign, what));
            }
        }
        int syllables = about(line, 5);
        for (int syllable = 0; syllable < syllables; syllable++) {
            for (int what = 0; what < SYLLABLE_NUMBERS; what++) {
                print = mix(print, syllable(line, syllable, what));
            }
        }
        return print;
    }

    // ---- properties

    private static boolean isProperty(int number) {
        return number >= 0 && number < PROPERTIES;
    }

    private static boolean allows(int property, int value) {
        return property >= 0 && property < LEAST.length && property < GREATEST.length
                && value >= LEAST[property] && value <= GREATEST[property];
    }

    private static int basicValue(int property) {
        return property >= 0 && property < BASIC.length ? BASIC[property] : 0;
    }

    /** The property that a tag with this letter sets, or NOTHING. */
    private static int propertyOfTag(int letter) {
        switch (letter) {
            case 's':
                return SIZE;
            case 'c':
                return COLOR;
            case 't':
                return SUNG_COLOR;
            case 'b':
                return BOLD;
            default:
                return NOTHING;
        }
    }

    /** Numbers in a row that is 0 outside of its bounds, so that no index of it can fail. */
    private static final class Row {
        private final int[] cells;

        Row(int length) {
            cells = new int[length < 0 ? 0 : length];
        }

        int get(int i) {
            return i >= 0 && i < cells.length ? cells[i] : 0;
        }

        void set(int i, int value) {
            if (i >= 0 && i < cells.length) {
                cells[i] = value;
            }
        }

        void copy(Row other) {
            for (int i = 0; i < cells.length; i++) {
                cells[i] = other.get(i);
            }
        }
    }

    /** The styles. */
    private static final class Sheet {
        private int count;
        private final Row parents;
        private final Row own;

        Sheet() {
            count = 0;
            parents = new Row(MOST_STYLES);
            own = new Row(MOST_STYLES * PROPERTIES);
        }

        void copy(Sheet other) {
            count = other.count;
            parents.copy(other.parents);
            own.copy(other.own);
        }

        boolean has(int style) {
            return style >= 0 && style < count;
        }

        boolean hasOrNothing(int style) {
            return style == NOTHING || has(style);
        }

        void add(int parent) {
            parents.set(count, parent);
            // A style that was removed may have left its values here.
            for (int property = 0; property < PROPERTIES; property++) {
                setOwnValue(count, property, NOTHING);
            }
            count++;
        }

        void dropLast() {
            count--;
        }

        int ownValue(int style, int property) {
            return own.get(style * PROPERTIES + property);
        }

        void setOwnValue(int style, int property, int value) {
            own.set(style * PROPERTIES + property, value);
        }

        /** The style that has the value as its own one, or NONE, also for a style that is not there. */
        int sourceOf(int style, int property) {
            int at = style;
            for (int step = 0; step < MOST_STYLES && at >= 0 && at < count; step++) {
                if (own.get(at * PROPERTIES + property) != NOTHING) {
                    return at;
                }
                at = parents.get(at);
            }
            return NONE;
        }

        int valueIn(int style, int property) {
            int source = sourceOf(style, property);
            return source == NONE ? basicValue(property) : ownValue(source, property);
        }

        /** Whether style is start itself or one of its parents and parents of parents. */
        boolean leadsTo(int start, int style) {
            int at = start;
            for (int step = 0; step < MOST_STYLES && has(at); step++) {
                if (at == style) {
                    return true;
                }
                at = parents.get(at);
            }
            return false;
        }

        int ancestorsOf(int style) {
            int found = 0;
            int at = parents.get(style);
            for (int step = 0; step < MOST_STYLES && has(at); step++) {
                found++;
                at = parents.get(at);
            }
            return found;
        }

        int childrenOf(int style) {
            int found = 0;
            for (int i = 0; i < count; i++) {
                if (parents.get(i) == style) {
                    found++;
                }
            }
            return found;
        }

        /** A style that is flat already still has the same values, so the order does not matter. */
        int makeFlat() {
            int added = 0;
            for (int style = 0; style < count; style++) {
                for (int property = 0; property < PROPERTIES; property++) {
                    if (ownValue(style, property) == NOTHING) {
                        setOwnValue(style, property, valueIn(style, property));
                        added++;
                    }
                }
                parents.set(style, NOTHING);
            }
            return added;
        }
    }

    /** Reads what was typed into items, or finds the error place. */
    private static final class Reader {
        private static final int OUTSIDE = 0;
        private static final int OPENED = 1;

        private final Row kinds;
        private final Row numbers;
        private int size;
        private int misplaced;
        private int outOfRange;
        /** OUTSIDE of a tag, behind what OPENED it, or otherwise behind this letter. */
        private int tag;
        private int digits;
        private int number;

        Reader() {
            kinds = new Row(MOST_SIGNS);
            numbers = new Row(MOST_SIGNS);
        }

        /** Returns the error place, or NOTHING. */
        int read(Row codes, int length) {
            size = 0;
            misplaced = NOTHING;
            outOfRange = NOTHING;
            tag = OUTSIDE;
            for (int i = 0; i < length && misplaced == NOTHING; i++) {
                take(i, codes.get(i));
            }
            if (misplaced != NOTHING) {
                return misplaced;
            }
            return tag == OUTSIDE ? outOfRange : length;
        }

        private void take(int place, int code) {
            if (tag == OUTSIDE) {
                takeOutside(code);
            } else if (tag == OPENED) {
                takeLetter(place, code);
            } else if (code >= '0' && code <= '9' && digits < MOST_DIGITS) {
                number = number * 10 + code - '0';
                digits++;
            } else if (code == '}' && (digits > 0 || tag == RESET_ITEM)) {
                closeTag(place);
            } else {
                misplaced = place;
            }
        }

        private void takeOutside(int code) {
            if (code == '{') {
                tag = OPENED;
            } else {
                addItem(SIGN_ITEM, code);
            }
        }

        private void takeLetter(int place, int code) {
            if (code != RESET_ITEM && code != SYLLABLE_ITEM && propertyOfTag(code) == NOTHING) {
                misplaced = place;
                return;
            }
            tag = code;
            digits = 0;
            number = 0;
        }

        private void closeTag(int place) {
            if (digits > 0 && !isInRange() && outOfRange == NOTHING) {
                outOfRange = place - digits;
            }
            addItem(tag, digits > 0 ? number : NOTHING);
            tag = OUTSIDE;
        }

        private boolean isInRange() {
            switch (tag) {
                case RESET_ITEM:
                    return number < MOST_STYLES;
                case SYLLABLE_ITEM:
                    return number <= LONGEST_SYLLABLE;
                default:
                    return allows(propertyOfTag(tag), number);
            }
        }

        private void addItem(int kind, int value) {
            kinds.set(size, kind);
            numbers.set(size, value);
            size++;
        }
    }

    /** Signs and tags in their order; nothing changes them. */
    private static final class Text {
        private final int size;
        private final Row kinds;
        private final Row numbers;

        Text(Row kinds, Row numbers, int size) {
            this.size = size;
            this.kinds = new Row(size);
            this.numbers = new Row(size);
            this.kinds.copy(kinds);
            this.numbers.copy(numbers);
        }

        Text withLastSyllable(int lasts) {
            Text other = new Text(kinds, numbers, size);
            for (int i = size - 1; i >= 0; i--) {
                if (kinds.get(i) == SYLLABLE_ITEM) {
                    other.numbers.set(i, lasts);
                    return other;
                }
            }
            return other;
        }
    }

    /** A line as it was given; as nothing changes it, states of the history can share it. */
    private static final class Line {
        private final int begin;
        private final int end;
        private final int style;
        private final int margin;
        private final Text text;

        Line(int begin, int end, int style, int margin, Text text) {
            this.begin = begin;
            this.end = end;
            this.style = style;
            this.margin = margin;
            this.text = text;
        }

        Line withStyle(int other) {
            return new Line(begin, end, other, margin, text);
        }

        Line withMargin(int other) {
            return new Line(begin, end, style, other, text);
        }

        Line withText(Text other) {
            return new Line(begin, end, style, margin, other);
        }

        Line movedBy(int time) {
            return new Line(begin + time, end + time, style, margin, text);
        }
    }

    /** A state: all that the history keeps. */
    private static final class Screen {
        private final Sheet sheet;
        private final Line[] rows;
        private int count;
        private int height;

        Screen() {
            sheet = new Sheet();
            rows = new Line[MOST_LINES];
            count = 0;
            height = 300;
        }

        void copy(Screen other) {
            sheet.copy(other.sheet);
            count = other.count;
            height = other.height;
            for (int i = 0; i < rows.length; i++) {
                rows[i] = other.lineAt(i);
            }
        }

        /** Returns null if there is no such line. */
        Line lineAt(int i) {
            return i >= 0 && i < count && i < rows.length ? rows[i] : null;
        }

        void putLine(int i, Line line) {
            if (i >= 0 && i < rows.length) {
                rows[i] = line;
            }
        }

        void addLine(Line line) {
            putLine(count, line);
            count++;
        }

        void dropLine(int line) {
            for (int i = line; i < count; i++) {
                putLine(i, lineAt(i + 1));
            }
            count--;
        }

        boolean hasLineOfStyle(int style) {
            for (int i = 0; i < count; i++) {
                Line line = lineAt(i);
                if (line != null && line.style == style) {
                    return true;
                }
            }
            return false;
        }
    }

    /** The latest states, in a ring of screens that are used again. */
    private static final class History {
        private final Screen[] ring;
        private int oldest;
        private int count;

        History() {
            ring = new Screen[MOST_STATES];
            for (int i = 0; i < ring.length; i++) {
                ring[i] = new Screen();
            }
            oldest = 0;
            count = 0;
        }

        void keep(Screen now) {
            if (count >= MOST_STATES) {
                oldest = (oldest + 1) % MOST_STATES;
                count--;
            }
            Screen state = stateAt(count);
            if (state != null) {
                state.copy(now);
                count++;
            }
        }

        void restore(Screen now) {
            count--;
            Screen state = stateAt(count);
            if (state != null) {
                now.copy(state);
            }
        }

        private Screen stateAt(int age) {
            int i = (oldest + age) % MOST_STATES;
            return i >= 0 && i < ring.length ? ring[i] : null;
        }
    }

    /** What the signs and syllables of a line are like under the styles of a sheet. */
    private static final class Look {
        private int begin;
        private int end;
        private int group;
        private int margin;
        private int height;
        private int offset;
        private int signs;
        private final Row signTable;
        private int syllables;
        private final Row syllableTable;
        private int lasting;
        /** The values that hold at the place that is being read. */
        private final Row held;

        Look() {
            signTable = new Row(MOST_SIGNS * SIGN_NUMBERS);
            syllableTable = new Row(MOST_SYLLABLES * SYLLABLE_NUMBERS);
            held = new Row(SIGN_PROPERTIES);
        }

        void read(Line line, Sheet sheet) {
            begin = line.begin;
            end = line.end;
            group = sheet.valueIn(line.style, GROUP);
            margin = line.margin == NOTHING ? sheet.valueIn(line.style, MARGIN) : line.margin;
            signs = 0;
            syllables = 0;
            lasting = 0;
            height = 0;
            holdStyle(line.style, sheet);
            Text text = line.text;
            for (int i = 0; i < text.size; i++) {
                int kind = text.kinds.get(i);
                int number = text.numbers.get(i);
                switch (kind) {
                    case SIGN_ITEM:
                        addSign(number);
                        break;
                    case SYLLABLE_ITEM:
                        addSyllable(number);
                        break;
                    case RESET_ITEM:
                        holdStyle(number == NOTHING ? line.style : number, sheet);
                        break;
                    default:
                        held.set(propertyOfTag(kind), number);
                        break;
                }
            }
            if (signs == 0) {
                height = sheet.valueIn(line.style, SIZE);
            }
        }

        private void holdStyle(int style, Sheet sheet) {
            for (int property = 0; property < SIGN_PROPERTIES; property++) {
                held.set(property, sheet.valueIn(style, property));
            }
        }

        private void addSign(int code) {
            int at = signs * SIGN_NUMBERS;
            int syllable = syllables - 1;
            signTable.set(at + SIGN_CODE, code);
            for (int property = 0; property < SIGN_PROPERTIES; property++) {
                signTable.set(at + SIGN_VALUES + property, held.get(property));
            }
            signTable.set(at + SIGN_SYLLABLE, syllable < 0 ? NONE : syllable);
            if (syllable >= 0) {
                int counter = syllable * SYLLABLE_NUMBERS + 2;
                syllableTable.set(counter, syllableTable.get(counter) + 1);
            }
            height = Math.max(height, held.get(SIZE));
            signs++;
        }

        private void addSyllable(int lasts) {
            int at = syllables * SYLLABLE_NUMBERS;
            syllableTable.set(at, begin + lasting);
            syllableTable.set(at + 1, lasts);
            syllableTable.set(at + 2, 0);
            lasting += lasts;
            syllables++;
        }

        boolean hasSign(int sign) {
            return sign >= 0 && sign < signs;
        }

        int signNumber(int sign, int what) {
            return signTable.get(sign * SIGN_NUMBERS + what);
        }

        boolean hasSyllable(int syllable) {
            return syllable >= 0 && syllable < syllables;
        }

        int syllableNumber(int syllable, int what) {
            return syllableTable.get(syllable * SYLLABLE_NUMBERS + what);
        }

        boolean isShownAt(int time) {
            return begin <= time && time < end;
        }

        boolean isSungAt(int sign, int time) {
            int syllable = signNumber(sign, SIGN_SYLLABLE);
            return syllable != NONE && syllableNumber(syllable, 0) <= time;
        }

        int countSungAt(int time) {
            int count = 0;
            for (int sign = 0; sign < signs; sign++) {
                if (isSungAt(sign, time)) {
                    count++;
                }
            }
            return count;
        }

        int countUnlike(Look other) {
            int count = 0;
            for (int sign = 0; sign < signs; sign++) {
                if (isUnlike(sign, other)) {
                    count++;
                }
            }
            return count;
        }

        private boolean isUnlike(int sign, Look other) {
            for (int property = 0; property < SIGN_PROPERTIES; property++) {
                int what = SIGN_VALUES + property;
                if (signNumber(sign, what) != other.signNumber(sign, what)) {
                    return true;
                }
            }
            return false;
        }

        /** Whether it keeps a line that is placed later from this offset. */
        boolean blocks(Look later, int place) {
            return group == later.group && later.begin < end
                    && place < offset + height && offset < place + later.height;
        }

        boolean isAheadOf(Look other) {
            return group < other.group || group == other.group && offset < other.offset;
        }
    }

    /** The looks of all lines, and their places. */
    private static final class Picture {
        private final Look[] looks;
        private int count;
        /** The lines in the order in which they are placed. */
        private final Row order;

        Picture() {
            looks = new Look[MOST_LINES];
            for (int i = 0; i < looks.length; i++) {
                looks[i] = new Look();
            }
            count = 0;
            order = new Row(MOST_LINES);
        }

        void draw(Screen screen) {
            count = screen.count;
            for (int i = 0; i < count; i++) {
                Line line = screen.lineAt(i);
                Look look = lookAt(i);
                if (line != null && look != null) {
                    look.read(line, screen.sheet);
                }
            }
            sortByBeginnings();
            for (int i = 0; i < count; i++) {
                Look look = lookAt(order.get(i));
                if (look != null) {
                    look.offset = freeOffset(look, i);
                }
            }
        }

        /** Returns null if there is no such line. */
        Look lookAt(int i) {
            return i >= 0 && i < count && i < looks.length ? looks[i] : null;
        }

        int beginOf(int line) {
            Look look = lookAt(line);
            return look == null ? 0 : look.begin;
        }

        private void sortByBeginnings() {
            for (int line = 0; line < count; line++) {
                int at = line;
                for (; at > 0 && beginOf(order.get(at - 1)) > beginOf(line); at--) {
                    order.set(at, order.get(at - 1));
                }
                order.set(at, line);
            }
        }

        /** Each line placed before moves the new one at most once, so as many rounds are enough. */
        private int freeOffset(Look look, int before) {
            int place = look.margin;
            for (int round = 0; round < before; round++) {
                for (int i = 0; i < before; i++) {
                    Look other = lookAt(order.get(i));
                    if (other != null && other.blocks(look, place)) {
                        place = other.offset + other.height;
                    }
                }
            }
            return place;
        }

        boolean isShownAt(int line, int time) {
            Look look = lookAt(line);
            return look != null && look.isShownAt(time);
        }

        int countShownAt(int time) {
            int found = 0;
            for (int line = 0; line < count; line++) {
                if (isShownAt(line, time)) {
                    found++;
                }
            }
            return found;
        }

        /** How many lines shown at this time come before the line in the order of places. */
        int countAhead(int line, int time) {
            int found = 0;
            for (int i = 0; i < count; i++) {
                if (i != line && isShownAt(i, time) && comesBefore(i, line)) {
                    found++;
                }
            }
            return found;
        }

        private boolean comesBefore(int line, int other) {
            Look look = lookAt(line);
            Look otherLook = lookAt(other);
            if (look == null || otherLook == null) {
                return false;
            }
            return look.isAheadOf(otherLook) || !otherLook.isAheadOf(look) && line < other;
        }
    }
}
