import java.util.Arrays;

/** A kit for screens without any screen: see README.md. */
public final class ScreenKit {
    public static final int NONE = -1;

    private static final int NO_WIDGET = -2;
    private static final int OUTSIDE = -4;
    private static final int NOT_NOW = -5;
    private static final int NO_BOX = -100000;

    private static final int MOST_WIDGETS = 60;
    private static final int MOST_BOXES = 10;
    private static final int MOST_TEXT = 40;
    private static final int MOST_MOVES = 8;
    private static final int ROW_LINES = 6;
    private static final int HEADER_LINES = 8;

    private static final int ROW = 0;
    private static final int COL = 1;
    private static final int GRID = 2;
    private static final int STACK = 3;
    private static final int FLOW = 4;
    private static final int SCROLL = 5;
    private static final int LABEL = 6;
    private static final int BUTTON = 7;
    private static final int CHECK = 8;
    private static final int RADIO = 9;
    private static final int FIELD = 10;
    private static final int SLIDER = 11;
    private static final int LIST = 12;
    private static final int TABS = 14;
    private static final int DIALOG = 15;
    private static final int TREE = 16;
    private static final int TABLE = 17;
    private static final int PICTURE = 18;
    private static final String KINDS = "row col grid stack flow scroll label button check radio field slider list gap tabs dialog tree table picture";

    private static final int COLS = 0;
    private static final int BIND = 1;
    private static final int LEAST = 2;
    private static final int MOST = 3;
    private static final int ROWS = 4;
    private static final int PICK = 5;
    private static final int SIGNS = 6;
    private static final int WRAP = 7;
    private static final int OFF = 8;
    private static final int IMG = 9;
    private static final int DO = 10;
    private static final int DO_SIGN = 11;
    private static final int DO_NUMBER = 12;
    private static final String ATTRIBUTES = "cols bind least most rows pick wide wrap off img do";
    private static final int[] ATTRIBUTE_LEAST = {1, 0, 0, 0, 0, 0, 1, 0, 0, 1, 0};
    private static final int[] ATTRIBUTE_MOST = {8, 15, 999, 999, 1000000, 999, 40, 1, 1, 4, 15};
    private static final int[] ATTRIBUTE_FIRST = {2, NONE, 0, 99, 0, 0, 8, 0, 0, 1, NONE};
    private static final int[] ATTRIBUTE_KIND = {GRID, NONE, NONE, NONE, LIST, RADIO, FIELD, LABEL, NONE, PICTURE, BUTTON};

    private static final int INK = 0;
    private static final int PAPER = 1;
    private static final int EDGE = 2;
    private static final int LINE = 3;
    private static final int PAD = 4;
    private static final int GAP = 5;
    private static final int WIDE = 6;
    private static final int TALL = 7;
    private static final int GROW = 8;
    private static final int ALIGN = 9;
    private static final int HIDE = 10;
    private static final int DIR = 11;
    private static final int SHAPE = 12;
    private static final String PROPERTIES = "ink paper edge line pad gap wide tall grow align hide dir shape";
    private static final int[] PROPERTY_FIRST = {0xff000000, 0, 0, 0, 0, 0, 0, 0, 0, 3, 0, 0, 0};
    private static final int[] PROPERTY_MOST = {0, 0, 0, 3, 9, 9, 96, 64, 9, 3, 1, 1, 8};

    private static final int HOVERED = 1;
    private static final int PRESSED = 2;
    private static final int FOCUSED = 4;
    private static final int CHECKED = 8;
    private static final int SWITCHED_OFF = 16;
    private static final String STATES = "hover press focus check off";

    private static final int KEY_LEFT = 1;
    private static final int KEY_RIGHT = 2;
    private static final int KEY_HOME = 3;
    private static final int KEY_END = 4;
    private static final int KEY_COPY = 5;
    private static final int KEY_CUT = 6;
    private static final int KEY_PASTE = 7;
    private static final int KEY_BACK = 8;
    private static final int KEY_UP = 9;
    private static final int KEY_DOWN = 10;
    private static final int KEY_UNDO = 11;
    private static final int KEY_REDO = 12;
    private static final int KEY_TAB = 13;
    private static final int KEY_ENTER = 14;
    private static final int KEY_CLOSE = 15;
    private static final int KEY_DELETE = 127;

    private final Tape tape = new Tape();
    private final Form form = new Form();
    private final Letters letters = new Letters();
    private final Stock stock = new Stock();
    private final Layout layout;
    private final Painter painter;
    private Rules spareRules = new Rules();
    private Lines spareLines = new Lines();
    private final char[] clipped = new char[MOST_TEXT];
    private int clippedCount;
    private int pointerX;
    private int pointerY;
    private int ticks;

    public ScreenKit(int width, int height) {
        int wide = Math.max(16, Math.min(96, width));
        int high = Math.max(16, Math.min(64, height));
        layout = new Layout(form, letters, stock, wide, high);
        painter = new Painter(form, letters, stock, wide, high);
    }

    // ---- what the tape tells ----

    public void sign(long c) {
        for (int shift = 56; shift >= 0; shift -= 8) {
            tape.add((int) (c >>> shift) & 255);
        }
    }

    public int form() {
        Widget top = form.read(tape, null);
        int answer = tape.taken(0);
        if (top == null) {
            return answer;
        }
        form.adopt(top);
        painter.all = true;
        settle();
        return form.count;
    }

    public int style() {
        boolean good = spareRules.read(tape);
        int answer = tape.taken(spareRules.selectorCount);
        if (good) {
            Rules old = layout.rules;
            layout.rules = spareRules;
            spareRules = old;
            settle();
        }
        return answer;
    }

    public int shape(int n) {
        if (n < 1 || n > Stock.SHAPES) {
            tape.empty();
            return OUTSIDE;
        }
        boolean good = stock.readShape(tape);
        int answer = tape.taken(stock.counts[0]);
        if (good) {
            stock.keepShape(n);
            settle();
        }
        return answer;
    }

    public int glyph(int c, int columns, long bits) {
        if (c < 32 || c > 126 || columns < 1 || columns > 7) {
            return OUTSIDE;
        }
        letters.columns[c] = columns;
        letters.bits[c] = bits;
        painter.all = true;
        settle();
        return 1;
    }

    public int text(int w) {
        Widget told = form.at(w);
        char[] signs = tape.plain(MOST_TEXT, true);
        if (told == null) {
            return NO_WIDGET;
        }
        if (!isTold(told.kind)) {
            return NOT_NOW;
        }
        told.write(signs);
        settle();
        return signs.length;
    }

    public int data() {
        boolean good = spareLines.readData(tape);
        int answer = tape.taken(spareLines.count);
        if (good) {
            Lines old = form.data;
            form.data = spareLines;
            spareLines = old;
            form.agedRows();
            settle();
        }
        return answer;
    }

    public int filter(int w) {
        char[] signs = tape.plain(8, false);
        Widget table = form.at(w);
        if (table == null || table.kind != TABLE) {
            return NO_WIDGET;
        }
        table.rows.filter = signs;
        table.rows.aged = true;
        settle();
        return table.rows.shownCount;
    }

    public int tongue() {
        boolean good = spareLines.readTongue(tape);
        int answer = tape.taken(spareLines.count);
        if (good) {
            Lines old = form.tongue;
            form.tongue = spareLines;
            spareLines = old;
            form.untell();
            settle();
        }
        return answer;
    }

    public int insert(int w, int at) {
        Widget box = form.at(w);
        if (box == null || !form.takes(box, at)) {
            tape.empty();
            return NO_BOX;
        }
        Widget top = form.read(tape, box);
        int answer = tape.taken(0);
        if (top == null) {
            return answer;
        }
        form.attach(box, top, at);
        settle();
        return top.number;
    }

    public int remove(int w) {
        Widget gone = form.at(w);
        if (gone == null) {
            return NO_WIDGET;
        }
        if (w == 0) {
            return NOT_NOW;
        }
        painter.forget(gone);
        form.detach(gone);
        settle();
        return form.count;
    }

    // ---- what is asked ----

    public int widget(int w, int what) {
        Widget asked = form.at(w);
        if (asked == null) {
            return NONE;
        }
        if (what >= 4 && what <= 9) {
            return asked.place[what - 4];
        }
        switch (what) {
            case 0: return asked.kind;
            case 1: return number(asked.parent);
            case 2: return asked.kids();
            case 3: return form.rank(asked);
            case 10: return asked.hidden ? 1 : 0;
            case 11: return form.states(asked);
            case 12: return asked.attributes[BIND];
            case 13: return asked.text.length;
            case 14: return asked.rows == null ? 0 : asked.rows.top;
            case 15: return form.selected(asked);
            default: return NONE;
        }
    }

    public int styled(int w, int what) throws IllegalArgumentException {
        Widget asked = form.at(w);
        if (asked == null || what < 0 || what > SHAPE) {
            throw new IllegalArgumentException();
        }
        return asked.style[what];
    }

    public int ruleOf(int w, int what) throws IllegalArgumentException {
        Widget asked = form.at(w);
        if (asked == null || what < 0 || what > SHAPE) {
            throw new IllegalArgumentException();
        }
        return asked.rule[what];
    }

    public int letter(int w, int k) {
        Widget asked = form.at(w);
        return asked != null && k >= 0 && k < asked.text.length ? asked.text[k] : NONE;
    }

    public int field(int w, int what) {
        Widget asked = form.at(w);
        if (asked == null || asked.field == null) {
            return NONE;
        }
        Field f = asked.field;
        switch (what) {
            case 0: return f.caret;
            case 1: return f.anchor;
            case 2: return f.view;
            case 3: return f.doneCount;
            case 4: return f.undoneCount;
            default: return NONE;
        }
    }

    public int ordered(int w, int i, int k) {
        Widget asked = form.at(w);
        if (asked == null || asked.kind == FIELD) {
            return NONE;
        }
        letters.rowsOf(asked);
        if (i < 0 || i >= letters.rows) {
            return NONE;
        }
        int n = letters.order(letters.starts[i], letters.ends[i], asked.style[DIR]);
        return k >= 0 && k < n ? letters.placed[k] : NONE;
    }

    public int shown(int w, int i) {
        Widget asked = form.at(w);
        if (asked == null || (asked.kind != TREE && asked.kind != TABLE)) {
            return NONE;
        }
        return i >= 0 && i < asked.rows.shownCount ? asked.rows.shown[i] : NONE;
    }

    public int spoken(int w, int k) {
        Widget asked = form.at(w);
        if (asked == null) {
            return NONE;
        }
        return asked.hidden ? NONE : form.speak(asked, k);
    }

    public int written(int k) {
        return form.write(k);
    }

    public int clip(int k) {
        return k >= 0 && k < clippedCount ? clipped[k] : NONE;
    }

    public int count(int what) {
        switch (what) {
            case 0: return tape.length;
            case 1: return form.count;
            case 2: return layout.rules.selectorCount;
            case 3: return layout.rules.declarationCount;
            case 4: return form.movesUnderWay();
            case 5: return number(form.focus);
            case 6: return number(form.pressed);
            case 7: return number(form.hover);
            case 8: return clippedCount;
            case 9: return painter.total;
            case 10: return ticks;
            case 11: return form.data.count;
            case 12: return form.tongue.count;
            case 13: return number(form.top());
            default: return NONE;
        }
    }

    private static int number(Widget w) {
        return w == null ? NONE : w.number;
    }

    // ---- cells and switches ----

    public int cell(int c) throws IllegalArgumentException {
        if (c < 0 || c >= form.cells.length) {
            throw new IllegalArgumentException();
        }
        return form.cells[c];
    }

    public int put(int c, int v) throws IllegalArgumentException {
        if (c < 0 || c >= form.cells.length) {
            throw new IllegalArgumentException();
        }
        int was = form.cells[c];
        form.cells[c] = v;
        settle();
        return was;
    }

    public int able(int w, boolean off) {
        Widget told = form.at(w);
        if (told == null) {
            return NO_WIDGET;
        }
        int was = told.attributes[OFF];
        told.attributes[OFF] = off ? 1 : 0;
        settle();
        return was;
    }

    // ---- the pointer ----

    public int point(int x, int y) {
        pointerX = x;
        pointerY = y;
        form.hover = form.over(x, y);
        drag(form.pressed);
        settle();
        return number(form.hover);
    }

    private void drag(Widget w) {
        if (w == null) {
            return;
        }
        form.stale = true;
        layout.fresh();
        if (w.kind == SLIDER) {
            slide(w);
        }
        if (w.field != null) {
            w.field.typing = false;
            w.field.caret = caretAt(w);
        }
    }

    public int down() {
        if (form.isDown) {
            return NOT_NOW;
        }
        Widget w = form.pressable(form.hover);
        form.isDown = true;
        form.pressed = w;
        form.endTyping();
        form.focusOn(w);
        form.stale = true;
        layout.fresh();
        press(w);
        settle();
        return number(w);
    }

    private void press(Widget w) {
        if (w == null) {
            return;
        }
        switch (w.kind) {
            case SLIDER:
                slide(w);
                break;
            case FIELD:
                w.field.caret = caretAt(w);
                w.field.anchor = w.field.caret;
                break;
            case LIST:
            case TREE:
                pressRow(w, pointedLine(w));
                break;
            case TABLE:
                pressTable(w, pointedLine(w));
                break;
            case TABS:
                pressTitle(w);
                break;
            default:
                break;
        }
    }

    public int up() {
        if (!form.isDown) {
            return NOT_NOW;
        }
        Widget w = form.pressed;
        boolean clicked = w != null && Form.within(form.hover, w);
        form.isDown = false;
        form.pressed = null;
        if (clicked) {
            click(w);
        }
        settle();
        return clicked ? w.number : NONE;
    }

    private void click(Widget w) {
        if (w.kind == BUTTON) {
            form.act(w);
        } else if (w.kind == CHECK) {
            form.set(w, form.checked(w) ? 0 : 1);
        } else if (w.kind == RADIO) {
            form.set(w, w.attributes[PICK]);
        }
    }

    /** Sets a slider by the pointer, which holds the middle of the knob. */
    private void slide(Widget w) {
        int wide = w.contentWidth();
        long way = (long) pointerX - w.contentX() - 1;
        if (w.style[DIR] == 1) {
            way = (long) w.contentX() + wide - 2 - pointerX;
        }
        int least = w.attributes[LEAST];
        int room = wide - 3;
        long v = least;
        if (room > 0) {
            long held = Math.max(0L, Math.min(room, way));
            v = least + (w.attributes[MOST] - least) * held / room;
        }
        form.set(w, v);
    }

    /** Ahead of which sign of a field the pointer is. */
    private int caretAt(Widget w) {
        int place = w.contentX();
        for (int i = w.field.view; i < w.text.length; i++) {
            int wide = letters.wide(w.text[i]);
            if (place + wide / 2 >= pointerX) {
                return i;
            }
            place += wide;
        }
        return w.text.length;
    }

    /** The line of a widget's content at which the pointer is, or NONE beside it. */
    private int pointedLine(Widget w) {
        long x = (long) pointerX - w.contentX();
        long y = (long) pointerY - w.contentY();
        boolean in = x >= 0 && x < w.contentWidth() && y >= 0 && y < w.contentHeight();
        return in ? (int) y : NONE;
    }

    private void pressRow(Widget w, int line) {
        int place = w.rows.top + line / ROW_LINES;
        if (line < 0 || place < 0 || place >= form.shownCount(w)) {
            return;
        }
        int row = form.shownAt(w, place);
        if (w.kind == TREE && w.rows.branches[row]) {
            int x = pointerX - w.contentX() - 4 * w.rows.depths[row];
            if (x >= 0 && x < 6) {
                w.rows.opened[row] = !w.rows.opened[row];
                w.rows.aged = true;
                return;
            }
        }
        form.select(w, row);
    }

    private void pressTable(Widget w, int line) {
        if (line >= ROW_LINES) {
            pressRow(w, line - ROW_LINES);
        } else if (line >= 0) {
            int columns = form.data.partsOf(0);
            for (int c = 0; c < columns; c++) {
                int from = w.contentX() + form.columnAt(w, c);
                if (pointerX >= from && pointerX < from + form.columnWide(w, c)) {
                    w.rows.sortBy(c);
                }
            }
        }
    }

    private void pressTitle(Widget w) {
        int line = pointedLine(w);
        if (line < 0 || line >= HEADER_LINES || !w.isSeenAt(pointerX, pointerY)) {
            return;
        }
        int at = 0;
        int page = 0;
        for (Widget k = w.kid; k != null; k = k.next) {
            int wide = letters.titleWide(k);
            int x = w.contentX() + w.turned(at, wide);
            if (pointerX >= x && pointerX < x + wide) {
                form.select(w, page);
                return;
            }
            at += wide;
            page++;
        }
    }

    public int wheel(int n) {
        if (n < -1000 || n > 1000) {
            return OUTSIDE;
        }
        for (Widget w = form.hover; w != null; w = w.parent) {
            if (w.kind == SCROLL || w.kind == LIST || w.kind == TREE || w.kind == TABLE) {
                turn(w, n);
                settle();
                return w.number;
            }
        }
        return NONE;
    }

    private void turn(Widget w, int n) {
        if (w.kind == SCROLL) {
            w.rows.top = Math.max(0, Math.min(w.scrollRoom(), w.rows.top + ROW_LINES * n));
        } else {
            int most = form.shownCount(w) - w.wholeRows();
            w.rows.top = Math.max(0, Math.min(most, w.rows.top + n));
        }
    }

    // ---- the keys ----

    public int key(int k, boolean shift) {
        boolean known = (k >= 1 && k <= 15) || (k >= 32 && k <= 127);
        if (!known) {
            return OUTSIDE;
        }
        Widget had = form.focus;
        if (!Field.isTyped(k)) {
            form.endTyping();
        }
        if (k == KEY_TAB) {
            form.focusOn(form.nextFocus(shift));
        } else if (k == KEY_CLOSE) {
            closeTop();
        } else if (had != null) {
            keyOf(had, k, shift);
        }
        if (had != null && isRowKey(had, k)) {
            form.stale = true;
            layout.fresh();
            form.showSelected(had);
        }
        settle();
        return number(had);
    }

    private void closeTop() {
        Widget top = form.top();
        if (top != null && top.attributes[BIND] >= 0) {
            form.cells[top.attributes[BIND]] = 0;
        }
    }

    private void keyOf(Widget w, int k, boolean shift) {
        switch (w.kind) {
            case BUTTON:
            case CHECK:
            case RADIO:
                if (k == KEY_ENTER) {
                    click(w);
                }
                break;
            case SLIDER:
                if (k == KEY_LEFT || k == KEY_RIGHT) {
                    form.set(w, (long) form.value(w) + w.way(k));
                }
                break;
            case TABS:
                if (k == KEY_LEFT || k == KEY_RIGHT) {
                    keyOfTabs(w, w.way(k));
                }
                break;
            case FIELD:
                keyOfField(w, k, shift);
                break;
            default:
                if (isRowKey(w, k)) {
                    keyOfRows(w, k);
                }
                break;
        }
    }

    private void keyOfTabs(Widget w, int way) {
        int chosen = form.selected(w);
        int next = chosen < 0 ? 0 : chosen + way;
        if (next >= 0 && next < w.kids()) {
            form.select(w, next);
        }
    }

    private void keyOfField(Widget w, int k, boolean shift) {
        Field f = w.field;
        switch (k) {
            case KEY_COPY:
                copySelection(w);
                break;
            case KEY_CUT:
                copySelection(w);
                f.replace(w, clipped, 0, false);
                break;
            case KEY_PASTE:
                f.replace(w, clipped, clippedCount, false);
                break;
            case KEY_UNDO:
                f.undo(w);
                break;
            case KEY_REDO:
                f.redo(w);
                break;
            case KEY_BACK:
            case KEY_DELETE:
                f.erase(w, k == KEY_BACK);
                break;
            default:
                if (k <= KEY_END) {
                    f.step(w, k, shift);
                } else if (Field.isTyped(k)) {
                    f.type(w, k);
                }
                break;
        }
    }

    private void copySelection(Widget w) {
        Field f = w.field;
        if (f.caret != f.anchor) {
            clippedCount = f.to() - f.from();
            copySigns(w.text, f.from(), clipped, 0, clippedCount);
        }
    }

    private static boolean isRowKey(Widget w, int k) {
        boolean steps = k == KEY_UP || k == KEY_DOWN || k == KEY_HOME || k == KEY_END;
        boolean branches = w.kind == TREE && (k == KEY_LEFT || k == KEY_RIGHT);
        return branches || (steps && (w.kind == LIST || w.kind == TREE || w.kind == TABLE));
    }

    private void keyOfRows(Widget w, int k) {
        if (k == KEY_LEFT || k == KEY_RIGHT) {
            keyOfBranch(w, k);
            return;
        }
        int n = form.shownCount(w);
        if (n > 0) {
            int at = form.placeOf(w, form.selected(w));
            form.select(w, form.shownAt(w, stepTo(k, at, n)));
        }
    }

    private static int stepTo(int k, int at, int n) {
        if (k == KEY_HOME || (at < 0 && k != KEY_END)) {
            return 0;
        }
        if (k == KEY_END) {
            return n - 1;
        }
        return k == KEY_UP ? Math.max(0, at - 1) : Math.min(n - 1, at + 1);
    }

    private void keyOfBranch(Widget w, int k) {
        Rows r = w.rows;
        int node = form.selected(w);
        if (node < 0 || form.placeOf(w, node) < 0) {
            return;
        }
        if (k == KEY_RIGHT) {
            r.opened[node] = r.branches[node];
        } else if (r.opened[node]) {
            r.opened[node] = false;
        } else if (r.ups[node] >= 0) {
            form.select(w, r.ups[node]);
        }
        r.renewTree();
    }

    public int focus(int w) {
        Widget told = form.at(w);
        if (told == null) {
            return NO_WIDGET;
        }
        if (!form.canFocus(told)) {
            return NOT_NOW;
        }
        form.focusOn(told);
        settle();
        return 1;
    }

    // ---- moves ----

    public int move(int w, int property, int to, int ticks) {
        Widget told = form.at(w);
        if (told == null) {
            return NO_WIDGET;
        }
        if (property < LINE || property > GROW || ticks < 1 || ticks > 1000) {
            return OUTSIDE;
        }
        if (form.movesUnderWay() >= MOST_MOVES && !told.isMoving(property)) {
            return NONE;
        }
        int held = Math.max(0, Math.min(PROPERTY_MOST[property], to));
        told.startMove(property, held, ticks);
        settle();
        return 1;
    }

    public int tick(int n) {
        if (n < 1 || n > 1000) {
            return OUTSIDE;
        }
        ticks += n;
        int ended = 0;
        for (int i = 0; i < form.count; i++) {
            ended += form.all[i].moveOn(n);
        }
        settle();
        return ended;
    }

    // ---- what is painted ----

    public int paint() {
        int n = painter.clean();
        for (int i = 0; n > 0 && i < form.rowCount; i++) {
            painter.draw(form.row[i]);
        }
        painter.done();
        return n;
    }

    public int pixel(int x, int y) throws ArrayIndexOutOfBoundsException {
        if (x < 0 || y < 0 || x >= painter.width || y >= painter.height) {
            throw new ArrayIndexOutOfBoundsException();
        }
        return painter.pixels[y * painter.width + x];
    }

    public int cover(int n, int w, int h, int x, int y) {
        if (n < 1 || n > Stock.SHAPES || w < 1 || w > 96 || h < 1 || h > 96) {
            return OUTSIDE;
        }
        if (x < 0 || x >= w || y < 0 || y >= h) {
            return OUTSIDE;
        }
        stock.coverRow(n, w, h, y, x, x + 1);
        return stock.covers[0];
    }

    // ---- images ----

    public int image(int n, int w, int h) {
        if (!Stock.isImage(n) || !Stock.isSize(w, h)) {
            return OUTSIDE;
        }
        stock.clearImage(n, w, h);
        settle();
        return 1;
    }

    public int dot(int n, int x, int y, int lanes) {
        if (!stock.hasPixel(n, x, y)) {
            return OUTSIDE;
        }
        stock.lanes[n][y * Stock.SIDE + x] = lanes;
        settle();
        return 1;
    }

    public int blend(int a, int b, int kind) {
        if (!Stock.isImage(a) || !Stock.isImage(b) || kind < 0 || kind > 11) {
            return OUTSIDE;
        }
        if (stock.widths[a] != stock.widths[b] || stock.heights[a] != stock.heights[b]) {
            return NOT_NOW;
        }
        stock.blendImages(a, b, kind);
        settle();
        return 1;
    }

    public int scale(int n, int w, int h) {
        if (!Stock.isImage(n) || !Stock.isSize(w, h)) {
            return OUTSIDE;
        }
        stock.scaleImage(n, w, h);
        settle();
        return 1;
    }

    public int lanes(int n, int x, int y) throws ArrayIndexOutOfBoundsException {
        if (!stock.hasPixel(n, x, y)) {
            throw new ArrayIndexOutOfBoundsException();
        }
        return stock.lanes[n][y * Stock.SIDE + x];
    }

    // ---- behind each call that changes something ----

    /** Looks at what follows from a change: dialogs that open, what loses the keys, what is scrolled too far. */
    private void settle() {
        form.stale = true;
        form.tell();
        form.renewRows();
        layout.fresh();
        form.raiseDialogs();
        if (form.dropLost()) {
            form.stale = true;
            layout.fresh();
        }
        for (int i = 0; i < form.count; i++) {
            layout.hold(form.all[i]);
        }
    }

    private static void copySigns(char[] from, int at, char[] to, int place, int n) {
        for (int k = 0; k < n && at + k < from.length && place + k < to.length; k++) {
            to[place + k] = from[at + k];
        }
    }

    private static char[] part(char[] signs, int from, int to) {
        char[] part = new char[Math.max(0, to - from)];
        copySigns(signs, from, part, 0, part.length);
        return part;
    }

    private static boolean isBox(int kind) {
        return kind <= SCROLL || kind == TABS || kind == DIALOG;
    }

    private static boolean isTold(int kind) {
        return kind >= LABEL && kind <= RADIO;
    }

    private static boolean canBePressed(int kind) {
        return (kind >= BUTTON && kind <= LIST) || kind == TABS || kind == TREE || kind == TABLE;
    }

    /** A word packed into a number, its signs as bytes; its place in a row of words, or NONE. */
    private static int find(String words, long word) {
        long seen = 0;
        int place = 0;
        for (int i = 0; i <= words.length(); i++) {
            int c = i < words.length() ? words.charAt(i) : ' ';
            if (c != ' ') {
                seen = seen << 8 | c;
            } else if (seen == word) {
                return place;
            } else {
                seen = 0;
                place++;
            }
        }
        return NONE;
    }

    /** The signs that were told and not read yet; reading them from the left up to the first fault. */
    private static final class Tape {
        static final int MOST_SIGNS = 3000;

        final char[] signs = new char[MOST_SIGNS];
        int length;
        int at;
        int fault = NONE;

        void add(int c) {
            if (length < MOST_SIGNS && (c == 10 || (c >= 32 && c <= 126))) {
                signs[length] = (char) c;
                length++;
            }
        }

        void empty() {
            length = 0;
        }

        void begin() {
            at = 0;
            fault = NONE;
        }

        /** Ends a reading: its answer, or what tells the fault. */
        int taken(int answer) {
            length = 0;
            return fault >= 0 ? -1 - fault : answer;
        }

        /** Takes all signs but line ends (and ", if told so), the first ones of them. */
        char[] plain(int most, boolean unquoted) {
            int n = 0;
            for (int i = 0; i < length && n < most; i++) {
                if (signs[i] != 10 && !(unquoted && signs[i] == '"')) {
                    signs[n] = signs[i];
                    n++;
                }
            }
            length = 0;
            return part(signs, 0, n);
        }

        boolean failed() {
            return fault >= 0;
        }

        void fail(int place) {
            if (fault < 0) {
                fault = place;
            }
        }

        boolean ended() {
            return at >= length;
        }

        int peek() {
            return at < length ? signs[at] : NONE;
        }

        boolean take(int c) {
            if (peek() != c) {
                return false;
            }
            at++;
            return true;
        }

        void need(int c) {
            if (!take(c)) {
                fail(at);
            }
        }

        void blanks() {
            while (at < length && (signs[at] == ' ' || signs[at] == 10)) {
                at++;
            }
        }

        static boolean isLower(int c) {
            return c >= 'a' && c <= 'z';
        }

        static boolean isDigit(int c) {
            return c >= '0' && c <= '9';
        }

        /** A word, packed into a number by its signs as bytes; 0 behind a fault. */
        long word() {
            if (!isLower(peek())) {
                fail(at);
                return 0;
            }
            long packed = 0;
            for (int n = 0; n <= 8 && (isLower(peek()) || isDigit(peek())); n++) {
                if (n == 8) {
                    fail(at);
                    return 0;
                }
                packed = packed << 8 | peek();
                at++;
            }
            return packed;
        }

        int number(int least, int most) {
            int from = at;
            int value = 0;
            for (int n = 0; n <= 7 && isDigit(peek()); n++) {
                if (n == 7) {
                    fail(at);
                    return 0;
                }
                value = value * 10 + peek() - '0';
                at++;
            }
            if (at == from) {
                fail(at);
            } else if (value < least || value > most) {
                fail(from);
            }
            return value;
        }
    }

    /** Lines of parts: those of the data, or those of a tongue (a word and its text). */
    private static final class Lines {
        static final int MOST_LINES = 40;
        static final int MOST_PARTS = 4;
        static final int MOST_TOLD = 20;

        final char[] signs = new char[1280];
        final int[] starts = new int[MOST_LINES * MOST_PARTS];
        final int[] lengths = new int[MOST_LINES * MOST_PARTS];
        final int[] parts = new int[MOST_LINES];
        int used;
        int count;

        private void clear(Tape t) {
            used = 0;
            count = 0;
            t.begin();
        }

        boolean readData(Tape t) {
            clear(t);
            for (int n = 0; n <= Tape.MOST_SIGNS && !t.ended() && !t.failed(); n++) {
                if (t.take(10)) {
                    continue;
                }
                if (count == MOST_LINES) {
                    t.fail(t.at);
                } else {
                    readParts(t);
                }
            }
            return !t.failed();
        }

        private void readParts(Tape t) {
            parts[count] = 0;
            count++;
            for (int p = 0; p < MOST_PARTS; p++) {
                readPart(t, 8, ',');
                if (p + 1 < MOST_PARTS && !t.take(',')) {
                    break;
                }
            }
            endLine(t);
        }

        /** Signs up to one that ends them, as the latest line's next part. */
        private void readPart(Tape t, int most, int end) {
            int from = used;
            for (int n = 0; n < most && !t.ended(); n++) {
                int c = t.peek();
                if (c == end || c == 10 || used >= signs.length) {
                    break;
                }
                signs[used] = (char) c;
                used++;
                t.at++;
            }
            addPart(from);
        }

        private void addPart(int from) {
            int line = count - 1;
            int slot = line * MOST_PARTS + parts[line];
            starts[slot] = from;
            lengths[slot] = used - from;
            parts[line]++;
        }

        private void endLine(Tape t) {
            if (!t.ended()) {
                t.need(10);
            }
        }

        boolean readTongue(Tape t) {
            clear(t);
            for (int n = 0; n <= Tape.MOST_SIGNS && !t.ended() && !t.failed(); n++) {
                if (t.take(10)) {
                    continue;
                }
                if (count == MOST_TOLD) {
                    t.fail(t.at);
                } else {
                    readTold(t);
                }
            }
            return !t.failed();
        }

        private void readTold(Tape t) {
            int from = t.at;
            t.word();
            if (!t.failed() && find(t.signs, from, t.at) >= 0) {
                t.fail(from);
            }
            if (t.failed()) {
                return;
            }
            int first = used;
            for (int i = from; i < t.at && used < signs.length; i++) {
                signs[used] = t.signs[i];
                used++;
            }
            parts[count] = 0;
            count++;
            addPart(first);
            t.need('=');
            if (!t.failed()) {
                readPart(t, MOST_TEXT, '"');
                endLine(t);
            }
        }

        /** The line whose first part is the signs from .. to - 1, or NONE. */
        int find(char[] word, int from, int to) {
            for (int i = 0; i < count; i++) {
                int start = starts[i * MOST_PARTS];
                boolean same = lengths[i * MOST_PARTS] == to - from;
                for (int k = from; same && k < to; k++) {
                    same = signs[start + k - from] == word[k];
                }
                if (same) {
                    return i;
                }
            }
            return NONE;
        }

        int partsOf(int line) {
            return line >= 0 && line < count ? parts[line] : 0;
        }

        int length(int line, int part) {
            boolean there = line >= 0 && line < count && part >= 0 && part < parts[line];
            return there ? lengths[line * MOST_PARTS + part] : 0;
        }

        int start(int line, int part) {
            boolean there = line >= 0 && line < count && part >= 0 && part < parts[line];
            return there ? starts[line * MOST_PARTS + part] : 0;
        }

        char[] copyOf(int line, int part) {
            int start = start(line, part);
            return part(signs, start, start + length(line, part));
        }

        /** Whether a part of a line has these signs one behind the other. */
        boolean has(int line, char[] sought) {
            for (int p = 0; p < partsOf(line); p++) {
                int start = start(line, p);
                int last = start + length(line, p) - sought.length;
                for (int from = start; from <= last; from++) {
                    int same = 0;
                    while (same < sought.length && signs[from + same] == sought[same]) {
                        same++;
                    }
                    if (same == sought.length) {
                        return true;
                    }
                }
            }
            return false;
        }

        /** Below 0 if line a's part comes ahead of line b's, above 0 if behind. */
        int compare(int a, int b, int part) {
            int x = value(a, part);
            int y = value(b, part);
            if (x >= 0 && y >= 0) {
                return Integer.compare(x, y);
            }
            if (x >= 0 || y >= 0) {
                return x >= 0 ? -1 : 1;
            }
            int m = start(a, part);
            int n = start(b, part);
            int most = Math.min(length(a, part), length(b, part));
            for (int k = 0; k < most; k++) {
                if (signs[m + k] != signs[n + k]) {
                    return signs[m + k] < signs[n + k] ? -1 : 1;
                }
            }
            return Integer.compare(length(a, part), length(b, part));
        }

        /** A part of 1 to 7 digits as a number, else NONE. */
        private int value(int line, int part) {
            int start = start(line, part);
            int n = length(line, part);
            if (n < 1 || n > 7) {
                return NONE;
            }
            int value = 0;
            for (int k = start; k < start + n; k++) {
                if (!Tape.isDigit(signs[k])) {
                    return NONE;
                }
                value = value * 10 + signs[k] - '0';
            }
            return value;
        }

        boolean same(Lines other) {
            boolean same = count == other.count && used == other.used;
            for (int i = 0; same && i < count; i++) {
                same = parts[i] == other.parts[i];
                for (int p = 0; same && p < parts[i]; p++) {
                    same = length(i, p) == other.length(i, p);
                }
            }
            for (int k = 0; same && k < used; k++) {
                same = signs[k] == other.signs[k];
            }
            return same;
        }

        void copy(Lines other) {
            copySigns(other.signs, 0, signs, 0, signs.length);
            System.arraycopy(other.starts, 0, starts, 0, starts.length);
            System.arraycopy(other.lengths, 0, lengths, 0, lengths.length);
            System.arraycopy(other.parts, 0, parts, 0, parts.length);
            used = other.used;
            count = other.count;
        }
    }

    /** The eight shapes by their points, the four images by their lanes. */
    private static final class Stock {
        static final int SHAPES = 8;
        static final int IMAGES = 4;
        static final int POINTS = 64;
        static final int SIDE = 32;
        static final int WIDEST = 96;

        // row 0 of the points is the one that is read into
        final int[][] xs = new int[SHAPES + 1][POINTS];
        final int[][] ys = new int[SHAPES + 1][POINTS];
        final int[][] nexts = new int[SHAPES + 1][POINTS];
        final int[] counts = new int[SHAPES + 1];
        final int[] widths = {1, 1, 1, 1, 1};
        final int[] heights = {1, 1, 1, 1, 1};
        final int[][] lanes = new int[IMAGES + 1][SIDE * SIDE];
        final int[] steps = new int[4 * WIDEST + 1];
        final int[] covers = new int[WIDEST];
        private final int[] scaled = new int[SIDE * SIDE];

        boolean readShape(Tape t) {
            counts[0] = 0;
            t.begin();
            t.blanks();
            for (int n = 0; n <= POINTS && !t.ended() && !t.failed(); n++) {
                readRing(t);
                t.blanks();
            }
            return !t.failed();
        }

        private void readRing(Tape t) {
            int first = counts[0];
            if (t.peek() != 'm' || first >= POINTS) {
                t.fail(t.at);
                return;
            }
            t.at++;
            readPoint(t);
            for (int n = 0; n <= POINTS && !t.failed(); n++) {
                t.blanks();
                int last = counts[0] - 1;
                if (t.peek() == 'z' && last - first >= 2) {
                    t.at++;
                    nexts[0][last] = first;
                    return;
                }
                if (t.peek() == 'l' && last + 1 < POINTS) {
                    t.at++;
                    readPoint(t);
                } else if (t.peek() == 'q' && last + 8 < POINTS) {
                    t.at++;
                    readBent(t, xs[0][last], ys[0][last]);
                } else {
                    t.fail(t.at);
                }
            }
        }

        private static int readPlace(Tape t) {
            if (t.failed()) {
                return 0;
            }
            t.blanks();
            return t.number(0, 256);
        }

        private void readPoint(Tape t) {
            int x = readPlace(t);
            int y = readPlace(t);
            add(x, y);
        }

        private void readBent(Tape t, int ax, int ay) {
            int bx = readPlace(t);
            int by = readPlace(t);
            int cx = readPlace(t);
            int cy = readPlace(t);
            for (int k = 1; k <= 8; k++) {
                add(bent(k, ax, bx, cx), bent(k, ay, by, cy));
            }
        }

        private static int bent(int k, int a, int b, int c) {
            return ((8 - k) * (8 - k) * a + 2 * k * (8 - k) * b + k * k * c) / 64;
        }

        private void add(int x, int y) {
            int n = counts[0];
            if (n < POINTS) {
                xs[0][n] = x;
                ys[0][n] = y;
                nexts[0][n] = n + 1;
                counts[0] = n + 1;
            }
        }

        void keepShape(int n) {
            copyShape(this, 0, n);
        }

        private void copyShape(Stock other, int from, int to) {
            System.arraycopy(other.xs[from], 0, xs[to], 0, POINTS);
            System.arraycopy(other.ys[from], 0, ys[to], 0, POINTS);
            System.arraycopy(other.nexts[from], 0, nexts[to], 0, POINTS);
            counts[to] = other.counts[from];
        }

        boolean sameShape(Stock other, int n) {
            boolean same = counts[n] == other.counts[n];
            for (int i = 0; same && i < counts[n]; i++) {
                same = xs[n][i] == other.xs[n][i] && ys[n][i] == other.ys[n][i]
                    && nexts[n][i] == other.nexts[n][i];
            }
            return same;
        }

        boolean sameImage(Stock other, int n) {
            boolean same = widths[n] == other.widths[n] && heights[n] == other.heights[n];
            for (int y = 0; same && y < heights[n]; y++) {
                for (int x = 0; same && x < widths[n]; x++) {
                    same = lanes[n][y * SIDE + x] == other.lanes[n][y * SIDE + x];
                }
            }
            return same;
        }

        void copy(Stock other) {
            for (int n = 1; n <= SHAPES; n++) {
                copyShape(other, n, n);
            }
            for (int n = 1; n <= IMAGES; n++) {
                widths[n] = other.widths[n];
                heights[n] = other.heights[n];
                System.arraycopy(other.lanes[n], 0, lanes[n], 0, SIDE * SIDE);
            }
        }

        /** Into covers: how many points are inside shape n of a w times h, in line y, of the pixels from .. to - 1. */
        void coverRow(int n, int w, int h, int y, int from, int to) {
            int wide = Math.max(0, Math.min(WIDEST, to - from));
            Arrays.fill(covers, 0, wide, 0);
            for (int j = 0; j < 4; j++) {
                Arrays.fill(steps, 0, 4 * wide + 1, 0);
                long line = 32L * (8L * y + 2 * j + 1);
                for (int i = 0; i < counts[n]; i++) {
                    cross(n, i, w, h, line, 4 * from);
                }
                int turns = 0;
                for (int i = 0; i < 4 * wide; i++) {
                    turns += steps[i];
                    if (turns != 0) {
                        covers[i / 4]++;
                    }
                }
            }
        }

        /** Counts one line of a shape for all points of a row that stand left of it (lengths are 1/256 of a pixel). */
        private void cross(int n, int i, int w, int h, long row, int first) {
            int k = nexts[n][i];
            if (k < 0 || k >= counts[n]) {
                return;
            }
            long ay = (long) ys[n][i] * h;
            long by = (long) ys[n][k] * h;
            long ax = (long) xs[n][i] * w;
            long bx = (long) xs[n][k] * w;
            if (row < Math.min(ay, by) || row >= Math.max(ay, by) || ay == by) {
                return;
            }
            long high = Math.abs(by - ay);
            long way = by > ay ? 1 : -1;
            long place = ax * high + (bx - ax) * (row - ay) * way;
            // point i of the row stands at 64 i + 32
            long left = Math.floorDiv(place - 32 * high + 64 * high - 1, 64 * high);
            long held = Math.max(0, Math.min(steps.length - 1, left - first));
            steps[0] += (int) way;
            steps[(int) held] -= (int) way;
        }

        static boolean isImage(int n) {
            return n >= 1 && n <= IMAGES;
        }

        static boolean isSize(int w, int h) {
            return w >= 1 && w <= SIDE && h >= 1 && h <= SIDE;
        }

        boolean hasPixel(int n, int x, int y) {
            return isImage(n) && x >= 0 && x < widths[n] && y >= 0 && y < heights[n];
        }

        void clearImage(int n, int w, int h) {
            widths[n] = w;
            heights[n] = h;
            Arrays.fill(lanes[n], 0);
        }

        void blendImages(int a, int b, int kind) {
            for (int y = 0; y < heights[a]; y++) {
                for (int x = 0; x < widths[a]; x++) {
                    int at = y * SIDE + x;
                    lanes[a][at] = blendPixel(lanes[b][at], lanes[a][at], kind);
                }
            }
        }

        private static int blendPixel(int s, int d, int kind) {
            int out = 0;
            for (int shift = 24; shift >= 0; shift -= 8) {
                int lane = blendLane(s >>> shift & 255, d >>> shift & 255, s >>> 24, d >>> 24, kind);
                out = out << 8 | Math.min(255, lane);
            }
            return out;
        }

        private static int blendLane(int s, int d, int as, int ad, int kind) {
            switch (kind) {
                case 1: return s;
                case 2: return s + times(d, 255 - as);
                case 3: return times(s, ad);
                case 4: return times(s, 255 - ad);
                case 5: return times(s, ad) + times(d, 255 - as);
                case 6: return times(s, 255 - ad) + times(d, 255 - as);
                case 7: return s + d;
                case 8: return times(s, d);
                case 9: return s + d - times(s, d);
                case 10: return Math.min(s, d);
                case 11: return Math.max(s, d);
                default: return 0;
            }
        }

        static int times(int x, int y) {
            return (x * y + 127) / 255;
        }

        void scaleImage(int n, int w, int h) {
            for (int y = 0; y < h; y++) {
                for (int x = 0; x < w; x++) {
                    scaled[y * SIDE + x] = scaledPixel(n, x, y, w, h);
                }
            }
            widths[n] = w;
            heights[n] = h;
            System.arraycopy(scaled, 0, lanes[n], 0, scaled.length);
        }

        private int scaledPixel(int n, int x, int y, int w, int h) {
            int out = 0;
            int area = Math.max(1, widths[n] * heights[n]);
            int left = x * widths[n] / w;
            int top = y * heights[n] / h;
            for (int shift = 24; shift >= 0; shift -= 8) {
                int sum = 0;
                for (int j = top; j < heights[n] && share(y, heights[n], j, h) > 0; j++) {
                    int high = share(y, heights[n], j, h);
                    for (int i = left; i < widths[n] && share(x, widths[n], i, w) > 0; i++) {
                        sum += (lanes[n][j * SIDE + i] >>> shift & 255) * share(x, widths[n], i, w) * high;
                    }
                }
                out = out << 8 | (2 * sum + area) / (2 * area);
            }
            return out;
        }

        /** How much of new pixel i and old pixel k is common, when a side of so many old ones is one of so many new ones. */
        private static int share(int i, int olds, int k, int news) {
            return Math.max(0, Math.min((i + 1) * olds, (k + 1) * news) - Math.max(i * olds, k * news));
        }
    }

    /** A widget: what it was told, its place among the others, its values and places as they count now. */
    private static final class Widget {
        static final int LEAST_WIDE = 4;
        static final int LEAST_HIGH = 5;
        static final int MOVING = 1;
        static final int MOVED = 2;
        static final int MOVE_NUMBERS = 5;

        final int kind;
        long name;
        final long[] classes = new long[3];
        final int[] attributes = new int[DO_NUMBER + 1];
        char[] text = new char[0];
        // the text as it is shown, and whether that is known
        char[] shown = text;
        boolean told;
        Widget parent;
        Widget kid;
        Widget next;
        int number;
        final int[] style = new int[SHAPE + 1];
        final int[] rule = new int[SHAPE + 1];
        // five numbers of each property that can move: state, from, to, tick, ticks
        final int[] moves = new int[(GROW - LINE + 1) * MOVE_NUMBERS];
        boolean hidden;
        Widget home;
        // x, y, width, height, least width and height, and x, y, width, height of the content
        final int[] place = new int[10];
        // left, top, right, bottom of what is visible of it, and of its content for what is in it
        final int[] seen = new int[8];
        final Field field;
        final Rows rows;
        // what it was like at the latest paint
        int[] painted = new int[0];

        Widget(int kind) {
            this.kind = kind;
            System.arraycopy(ATTRIBUTE_FIRST, 0, attributes, 0, ATTRIBUTE_FIRST.length);
            field = kind == FIELD ? new Field() : null;
            boolean turns = kind == SCROLL || kind == LIST || kind == TABS || kind == TREE || kind == TABLE;
            rows = turns ? new Rows() : null;
            if (kind == TABS) {
                rows.latest = 0;
            }
        }

        void write(char[] signs) {
            text = signs;
            told = false;
        }

        int kids() {
            int n = 0;
            for (Widget k = kid; k != null; k = k.next) {
                n++;
            }
            return n;
        }

        int frame() {
            return style[LINE] + style[PAD];
        }

        int contentX() {
            return place[6];
        }

        int contentY() {
            return place[7];
        }

        int contentWidth() {
            return place[8];
        }

        int contentHeight() {
            return place[9];
        }

        boolean isSeenAt(int x, int y) {
            return x >= seen[0] && x < seen[2] && y >= seen[1] && y < seen[3];
        }

        /** Where in the content something of this width stands, which stands at x if dir is 0. */
        int turned(int x, int wide) {
            return style[DIR] == 1 ? place[8] - x - wide : x;
        }

        /** Which way the keys left and right go. */
        int way(int k) {
            return (k == KEY_RIGHT) == (style[DIR] == 0) ? 1 : -1;
        }

        /** How many rows are seen wholly; one at least. */
        int wholeRows() {
            int head = kind == TABLE ? ROW_LINES : 0;
            return Math.max(1, (place[9] - head) / ROW_LINES);
        }

        /** How far a scroll can be scrolled, as it is placed. */
        int scrollRoom() {
            int high = kid != null && kid.kind != DIALOG ? kid.place[3] : 0;
            return Math.max(0, high - place[9]);
        }

        boolean isMoving(int property) {
            return moves[(property - LINE) * MOVE_NUMBERS] == MOVING;
        }

        void startMove(int property, int to, int ticks) {
            int m = (property - LINE) * MOVE_NUMBERS;
            moves[m] = MOVING;
            moves[m + 1] = style[property];
            moves[m + 2] = to;
            moves[m + 3] = 0;
            moves[m + 4] = ticks;
        }

        int movesUnderWay() {
            int n = 0;
            for (int m = 0; m < moves.length; m += MOVE_NUMBERS) {
                n += moves[m] == MOVING ? 1 : 0;
            }
            return n;
        }

        /** So many ticks go by: how many moves ended. */
        int moveOn(int n) {
            int ended = 0;
            for (int m = 0; m < moves.length; m += MOVE_NUMBERS) {
                if (moves[m] == MOVING) {
                    moves[m + 3] += n;
                    if (moves[m + 3] >= moves[m + 4]) {
                        moves[m] = MOVED;
                        ended++;
                    }
                }
            }
            return ended;
        }

        /** Moves go ahead of all rules. */
        void applyMoves() {
            for (int p = LINE; p <= GROW; p++) {
                int m = (p - LINE) * MOVE_NUMBERS;
                if (moves[m] != 0) {
                    int way = (moves[m + 2] - moves[m + 1]) * moves[m + 3] / Math.max(1, moves[m + 4]);
                    style[p] = moves[m] == MOVED ? moves[m + 2] : moves[m + 1] + way;
                    rule[p] = NONE;
                }
            }
        }
    }

    /** What a field has beside its text: caret, anchor, view, and the steps that can be undone and redone. */
    private static final class Field {
        static final int MOST_STEPS = 16;
        static final int STEP = MOST_TEXT + 3;

        int caret;
        int anchor;
        int view;
        // whether the latest thing was a typed sign, so that the next one is of the same step
        boolean typing;
        int[] done = new int[0];
        int[] undone = new int[0];
        int doneCount;
        int undoneCount;

        static boolean isTyped(int k) {
            return k >= 32 && k <= 126 && k != '"';
        }

        int from() {
            return Math.min(caret, anchor);
        }

        int to() {
            return Math.max(caret, anchor);
        }

        void begin(Widget w) {
            caret = w.text.length;
            anchor = caret;
        }

        /** Moves the caret by a key. */
        void step(Widget w, int k, boolean shift) {
            boolean selected = caret != anchor && !shift;
            if (k == KEY_HOME) {
                caret = 0;
            } else if (k == KEY_END) {
                caret = w.text.length;
            } else if (selected) {
                caret = k == KEY_LEFT ? from() : to();
            } else {
                caret = Math.max(0, Math.min(w.text.length, caret + (k == KEY_LEFT ? -1 : 1)));
            }
            if (!shift) {
                anchor = caret;
            }
        }

        void type(Widget w, int k) {
            char[] sign = {(char) k};
            replace(w, sign, 1, true);
        }

        /** Takes the selection, or the sign ahead, or the one behind. */
        void erase(Widget w, boolean ahead) {
            int from = from();
            int to = to();
            if (from == to) {
                from = ahead ? Math.max(0, from - 1) : from;
                to = ahead ? to : Math.min(w.text.length, to + 1);
            }
            change(w, from, to, w.text, 0, false);
        }

        /** Signs come in place of the selection, as many as there is room for. */
        void replace(Widget w, char[] signs, int n, boolean typed) {
            int room = MOST_TEXT - w.text.length + to() - from();
            int most = Math.max(0, Math.min(room, Math.min(n, signs.length)));
            if (change(w, from(), to(), signs, most, typed && typing)) {
                typing = typed;
            }
        }

        private boolean change(Widget w, int from, int to, char[] signs, int n, boolean joined) {
            if (from == to && n == 0) {
                return false;
            }
            if (!joined) {
                if (doneCount == MOST_STEPS) {
                    doneCount--;
                    System.arraycopy(done, STEP, done, 0, doneCount * STEP);
                }
                done = keep(w, done, doneCount);
                doneCount++;
            }
            undoneCount = 0;
            int rest = w.text.length - to;
            char[] text = new char[from + n + rest];
            copySigns(w.text, 0, text, 0, from);
            copySigns(signs, 0, text, from, n);
            copySigns(w.text, to, text, from + n, rest);
            w.write(text);
            caret = from + n;
            anchor = caret;
            return true;
        }

        /** Writes text, caret and anchor into the steps at this place; the steps, which are made with the first one. */
        private int[] keep(Widget w, int[] steps, int place) {
            int[] kept = steps.length == 0 ? new int[MOST_STEPS * STEP] : steps;
            int at = place * STEP;
            kept[at] = caret;
            kept[at + 1] = anchor;
            kept[at + 2] = w.text.length;
            for (int i = 0; i < w.text.length; i++) {
                kept[at + 3 + i] = w.text[i];
            }
            return kept;
        }

        private void bring(Widget w, int[] steps, int place) {
            int at = place * STEP;
            caret = steps[at];
            anchor = steps[at + 1];
            char[] text = new char[Math.max(0, steps[at + 2])];
            for (int i = 0; i < text.length; i++) {
                text[i] = (char) steps[at + 3 + i];
            }
            w.write(text);
        }

        void undo(Widget w) {
            if (doneCount > 0) {
                undone = keep(w, undone, undoneCount);
                undoneCount++;
                doneCount--;
                bring(w, done, doneCount);
            }
        }

        void redo(Widget w) {
            if (undoneCount > 0) {
                done = keep(w, done, doneCount);
                doneCount++;
                undoneCount--;
                bring(w, undone, undoneCount);
            }
        }

        /** The view changes as little as it must for the caret to be in a content of this width. */
        void look(Widget w, Letters letters, int wide) {
            int room = Math.max(0, wide - 1);
            view = Math.min(view, caret);
            while (view < caret && letters.between(w.text, view, caret) > room) {
                view++;
            }
        }
    }

    /** What can be turned of a scroll, list, tabs, tree or table: the top, the one selected latest, the rows that are shown. */
    private static final class Rows {
        int top;
        int latest = NONE;
        // of a tree: its nodes
        int nodes;
        final int[] ups = new int[MOST_TEXT];
        final int[] depths = new int[MOST_TEXT];
        final char[] signs = new char[MOST_TEXT];
        final boolean[] branches = new boolean[MOST_TEXT];
        final boolean[] opened = new boolean[MOST_TEXT];
        // of a table
        int sort = NONE;
        boolean falling;
        char[] filter = new char[0];
        // of both
        final int[] shown = new int[MOST_TEXT];
        int shownCount;
        boolean aged = true;

        void plant(char[] text) {
            int[] latests = new int[MOST_TEXT + 2];
            int level = 0;
            latests[0] = NONE;
            for (int i = 0; i < text.length; i++) {
                int c = text[i];
                if (Letters.isLetter(c) || Tape.isDigit(c)) {
                    latests[level] = addNode(c, level == 0 ? NONE : latests[level - 1], level);
                } else if (c == '(' && latests[level] >= 0 && level < MOST_TEXT) {
                    level++;
                    latests[level] = NONE;
                } else if (c == ')' && level > 0) {
                    level--;
                }
            }
        }

        private int addNode(int c, int up, int depth) {
            if (nodes >= MOST_TEXT) {
                return NONE;
            }
            int n = nodes;
            signs[n] = (char) c;
            ups[n] = up;
            depths[n] = depth;
            if (up >= 0) {
                branches[up] = true;
            }
            nodes++;
            return n;
        }

        void renewTree() {
            shownCount = 0;
            int hidden = MOST_TEXT;
            for (int n = 0; n < nodes; n++) {
                if (depths[n] > hidden) {
                    continue;
                }
                hidden = opened[n] || !branches[n] ? MOST_TEXT : depths[n];
                shown[shownCount] = n;
                shownCount++;
            }
            aged = false;
        }

        void renewTable(Lines data) {
            shownCount = 0;
            boolean sorted = sort >= 0 && sort < data.partsOf(0);
            for (int line = 1; line < data.count; line++) {
                if (data.has(line, filter)) {
                    int at = shownCount;
                    while (sorted && at > 0 && comesAhead(data, line, shown[at - 1] + 1)) {
                        shown[at] = shown[at - 1];
                        at--;
                    }
                    shown[at] = line - 1;
                    shownCount++;
                }
            }
            aged = false;
        }

        private boolean comesAhead(Lines data, int line, int other) {
            int way = data.compare(line, other, sort);
            return falling ? way > 0 : way < 0;
        }

        /** A column's head was pressed: up, down, not at all. */
        void sortBy(int column) {
            if (sort != column) {
                sort = column;
                falling = false;
            } else if (!falling) {
                falling = true;
            } else {
                sort = NONE;
                falling = false;
            }
            aged = true;
        }

        int placeOf(int row) {
            for (int i = 0; i < shownCount; i++) {
                if (shown[i] == row) {
                    return i;
                }
            }
            return NONE;
        }

        /** The top changes as little as it must for this one to be seen wholly. */
        void show(int place, int whole) {
            top = Math.min(place, Math.max(top, place - whole + 1));
        }
    }

    /** Glyphs, and one text that is looked at: its width, its rows, the order of their signs. */
    private static final class Letters {
        static final int MOST_SIGNS = 48;
        static final int LEFTWARD = 1;

        final int[] columns = new int[127];
        // bit 8 * row + column is a pixel
        final long[] bits = new long[127];
        final char[] signs = new char[MOST_SIGNS];
        int count;
        final char[] placed = new char[MOST_SIGNS];
        private final int[] levels = new int[MOST_SIGNS];
        private final int[] ways = new int[MOST_SIGNS];
        final int[] starts = new int[MOST_SIGNS];
        final int[] ends = new int[MOST_SIGNS];
        int rows;

        Letters() {
            for (int c = 32; c < 127; c++) {
                columns[c] = 2 + c % 3;
                for (int i = 0; i < columns[c]; i++) {
                    for (int j = 0; j < 5; j++) {
                        long bit = 0x1a95 >> (c * 7 + 5 * i + 11 * j) % 13 & 1;
                        bits[c] |= bit << 8 * j + i;
                    }
                }
            }
        }

        static boolean isUpper(int c) {
            return c >= 'A' && c <= 'Z';
        }

        static boolean isLetter(int c) {
            return Tape.isLower(c) || isUpper(c);
        }

        boolean isSet(int c, int column, int row) {
            return c >= 32 && c < bits.length && (bits[c] >>> 8 * row + column & 1) == 1;
        }

        int wide(char c) {
            return c < columns.length ? columns[c] + 1 : 1;
        }

        int between(char[] text, int from, int to) {
            int sum = 0;
            for (int i = from; i < to && i < text.length; i++) {
                sum += text[i] < columns.length ? columns[text[i]] + 1 : 1;
            }
            return sum;
        }

        /** The width of the text that is looked at. */
        int width() {
            return between(signs, 0, count);
        }

        void take(char[] text) {
            count = Math.min(text.length, signs.length);
            copySigns(text, 0, signs, 0, count);
        }

        void takePart(Lines lines, int line, int part) {
            count = Math.min(lines.length(line, part), signs.length);
            copySigns(lines.signs, lines.start(line, part), signs, 0, count);
        }

        void takeNumber(int n) {
            int size = 1;
            for (int rest = n / 10; rest > 0; rest /= 10) {
                size++;
            }
            count = size;
            int rest = n;
            for (int k = size - 1; k >= 0; k--) {
                signs[k] = (char) ('0' + rest % 10);
                rest /= 10;
            }
        }

        int titleWide(Widget page) {
            return between(page.shown, 0, page.shown.length) + 4;
        }

        /** Breaks a widget's text into rows, as it is placed. */
        void rowsOf(Widget w) {
            take(w.shown);
            if (w.kind == LABEL && w.attributes[WRAP] == 1) {
                breakRows(w.contentWidth());
            } else {
                rows = 1;
                starts[0] = 0;
                ends[0] = count;
            }
        }

        private int wordEnd(int from) {
            int i = from;
            while (i < count && signs[i] != ' ') {
                i++;
            }
            return i;
        }

        /** Leaves one blank between words and none around. */
        private void squeeze() {
            int n = 0;
            for (int i = 0; i < count; i++) {
                boolean wanted = signs[i] != ' ' || (n > 0 && signs[n - 1] != ' ');
                if (wanted) {
                    signs[n] = signs[i];
                    n++;
                }
            }
            count = n > 0 && signs[n - 1] == ' ' ? n - 1 : n;
        }

        int widestWord() {
            int most = 0;
            for (int i = 0; i < count; i++) {
                most = Math.max(most, between(signs, i, wordEnd(i)));
            }
            return most;
        }

        void breakRows(int limit) {
            squeeze();
            rows = 0;
            for (int start = 0; start < count; start++) {
                int end = wordEnd(start);
                for (int more = wordEnd(end + 1); end < count && between(signs, start, more) <= limit; more = wordEnd(end + 1)) {
                    end = more;
                }
                starts[rows] = start;
                ends[rows] = end;
                rows++;
                start = end;
            }
        }

        /** Orders the signs from .. to - 1 into placed: how many. */
        int order(int from, int to, int base) {
            int n = Math.max(0, Math.min(to, count) - from);
            level(from, n, base);
            for (int i = 0; i < n; i++) {
                placed[i] = signs[from + i];
            }
            for (int level = 2; level > 0; level--) {
                for (int i = 0; i < n; i++) {
                    int end = i;
                    while (end < n && levels[end] >= level) {
                        end++;
                    }
                    turn(i, end - 1);
                    i = end;
                }
            }
            return n;
        }

        private void turn(int from, int to) {
            for (int i = from, k = to; i < k; i++, k--) {
                char c = placed[i];
                placed[i] = placed[k];
                placed[k] = c;
            }
        }

        private void level(int from, int n, int base) {
            int latest = base;
            for (int i = 0; i < n; i++) {
                int c = signs[from + i];
                boolean upper = isUpper(c);
                boolean lower = Tape.isLower(c);
                if (upper || lower) {
                    latest = upper ? LEFTWARD : 0;
                }
                ways[i] = upper || lower || Tape.isDigit(c) ? latest : NONE;
                levels[i] = upper ? 1 : rightward(base, latest);
            }
            int ahead = base;
            for (int i = 0; i < n; i++) {
                if (ways[i] >= 0) {
                    ahead = ways[i];
                } else {
                    int behind = i;
                    while (behind < n && ways[behind] < 0) {
                        behind++;
                    }
                    int way = ahead == (behind < n ? ways[behind] : base) ? ahead : base;
                    levels[i] = way == LEFTWARD ? 1 : rightward(base, way);
                }
            }
        }

        /** The level of what runs to the right: 2 in a base that runs to the left, or behind a letter that does. */
        private static int rightward(int base, int latest) {
            return base == LEFTWARD || latest == LEFTWARD ? 2 : 0;
        }
    }

    /** The widgets in their order, the cells, what the pointer and the keys are at, and the open dialogs. */
    private static final class Form {
        final Widget[] all = new Widget[MOST_WIDGETS];
        int count;
        final int[] cells = new int[16];
        Lines data = new Lines();
        Lines tongue = new Lines();
        Widget hover;
        Widget pressed;
        Widget focus;
        boolean isDown;
        // open dialogs, the newest last
        private final Widget[] newest = new Widget[MOST_WIDGETS];
        private int newestCount;
        // whether styles and places are to be counted anew
        boolean stale = true;
        private final Widget[] made = new Widget[MOST_WIDGETS];
        private int madeCount;
        private int there;
        // the widgets that are not hidden, in their order of painting
        final Widget[] row = new Widget[MOST_WIDGETS];
        int rowCount;
        // which sign of a long text is wanted, how many went by, and the one that was found
        private int wanted;
        private int passed;
        private int found;

        Widget at(int w) {
            return w >= 0 && w < count ? all[w] : null;
        }

        // ---- reading ----

        /** Reads one widget and what is in it, as a form or into a box; null behind a fault. */
        Widget read(Tape t, Widget box) {
            t.begin();
            madeCount = 0;
            there = box == null ? 0 : count;
            int depth = boxesAround(box);
            Widget top = null;
            Widget around = null;
            for (int n = 0; n <= MOST_WIDGETS && !t.failed() && (n == 0 || around != null); n++) {
                Widget w = readHead(t, depth);
                if (w == null) {
                    break;
                }
                if (around == null) {
                    top = w;
                } else {
                    link(around, w, around.kids());
                }
                if (opens(t, w, depth)) {
                    around = w;
                    depth++;
                }
                for (int k = 0; k <= MOST_WIDGETS && around != null && closes(t); k++) {
                    around = around.parent;
                    depth--;
                }
                if (around != null && around.kind == SCROLL && around.kid != null) {
                    t.fail(t.at);
                }
            }
            t.blanks();
            if (!t.ended()) {
                t.fail(t.at);
            }
            return t.failed() ? null : top;
        }

        private static int boxesAround(Widget box) {
            int n = 0;
            for (Widget w = box; w != null; w = w.parent) {
                n++;
            }
            return n;
        }

        private static boolean opens(Tape t, Widget w, int depth) {
            t.blanks();
            if (t.failed() || !isBox(w.kind) || t.peek() != '{') {
                return false;
            }
            if (depth >= MOST_BOXES) {
                t.fail(t.at);
                return false;
            }
            t.at++;
            return true;
        }

        private static boolean closes(Tape t) {
            t.blanks();
            return !t.failed() && t.take('}');
        }

        /** Reads all of a widget but its children; null if it can't be there. */
        private Widget readHead(Tape t, int depth) {
            t.blanks();
            int from = t.at;
            int kind = find(KINDS, t.word());
            if (kind < 0 || there + madeCount >= MOST_WIDGETS || depth > MOST_BOXES) {
                t.fail(from);
                return null;
            }
            Widget w = new Widget(kind);
            made[madeCount] = w;
            madeCount++;
            readName(t, w);
            for (int n = 0; n < w.classes.length && takes(t, '.'); n++) {
                w.classes[n] = t.word();
            }
            if (takes(t, '(')) {
                readAttributes(t, w);
            }
            if (takes(t, '"')) {
                readText(t, w);
            }
            if (w.field != null) {
                w.field.begin(w);
            }
            if (kind == TREE) {
                w.rows.plant(w.text);
            }
            return w;
        }

        private static boolean takes(Tape t, int c) {
            if (t.failed()) {
                return false;
            }
            t.blanks();
            return t.take(c);
        }

        private void readName(Tape t, Widget w) {
            if (!takes(t, '#')) {
                return;
            }
            int from = t.at;
            long name = t.word();
            if (!t.failed() && isNamed(name)) {
                t.fail(from);
            }
            w.name = name;
        }

        private boolean isNamed(long name) {
            for (int i = 0; i < there; i++) {
                if (all[i].name == name) {
                    return true;
                }
            }
            for (int i = 0; i < madeCount; i++) {
                if (made[i].name == name) {
                    return true;
                }
            }
            return false;
        }

        private static void readAttributes(Tape t, Widget w) {
            int told = 0;
            for (int n = 0; n <= DO && !t.failed(); n++) {
                t.blanks();
                int from = t.at;
                int a = find(ATTRIBUTES, t.word());
                if (t.failed()) {
                    return;
                }
                if (a < 0 || !fits(a, w.kind) || (told >> a & 1) == 1) {
                    t.fail(from);
                    return;
                }
                told |= 1 << a;
                readAttribute(t, w, a);
                if (takes(t, ')')) {
                    return;
                }
                t.need(',');
            }
        }

        private static boolean fits(int attribute, int kind) {
            return ATTRIBUTE_KIND[attribute] == NONE || ATTRIBUTE_KIND[attribute] == kind;
        }

        private static void readAttribute(Tape t, Widget w, int a) {
            t.blanks();
            t.need('=');
            w.attributes[a] = readNumber(t, ATTRIBUTE_LEAST[a], ATTRIBUTE_MOST[a]);
            if (a != DO || t.failed()) {
                return;
            }
            t.blanks();
            int sign = t.peek();
            if (sign != '+' && sign != '-' && sign != '=') {
                t.fail(t.at);
                return;
            }
            t.at++;
            w.attributes[DO_SIGN] = sign;
            w.attributes[DO_NUMBER] = readNumber(t, 0, 999);
        }

        private static int readNumber(Tape t, int least, int most) {
            if (t.failed()) {
                return 0;
            }
            t.blanks();
            return t.number(least, most);
        }

        private static void readText(Tape t, Widget w) {
            int from = t.at;
            while (t.at < t.length && t.at - from < MOST_TEXT && t.signs[t.at] != '"' && t.signs[t.at] != 10) {
                t.at++;
            }
            w.write(part(t.signs, from, t.at));
            t.need('"');
        }

        // ---- the tree of widgets ----

        void adopt(Widget top) {
            hover = null;
            pressed = null;
            focus = null;
            isDown = false;
            newestCount = 0;
            renumber(top);
        }

        private void renumber(Widget top) {
            count = 0;
            for (Widget w = top; w != null && count < MOST_WIDGETS; w = following(w)) {
                w.number = count;
                all[count] = w;
                count++;
            }
        }

        private static Widget following(Widget w) {
            if (w.kid != null) {
                return w.kid;
            }
            for (Widget up = w; up != null; up = up.parent) {
                if (up.next != null) {
                    return up.next;
                }
            }
            return null;
        }

        private static void link(Widget box, Widget w, int at) {
            w.parent = box;
            Widget ahead = null;
            Widget behind = box.kid;
            for (int n = 0; n < at && behind != null; n++) {
                ahead = behind;
                behind = behind.next;
            }
            w.next = behind;
            if (ahead == null) {
                box.kid = w;
            } else {
                ahead.next = w;
            }
        }

        boolean takes(Widget box, int at) {
            if (!isBox(box.kind) || at < 0 || at > box.kids()) {
                return false;
            }
            return box.kind != SCROLL || box.kid == null;
        }

        void attach(Widget box, Widget top, int at) {
            link(box, top, at);
            renumber(all[0]);
        }

        void detach(Widget gone) {
            hover = within(hover, gone) ? null : hover;
            pressed = within(pressed, gone) ? null : pressed;
            focus = within(focus, gone) ? null : focus;
            int kept = 0;
            for (int i = 0; i < newestCount; i++) {
                if (!within(newest[i], gone)) {
                    newest[kept] = newest[i];
                    kept++;
                }
            }
            newestCount = kept;
            Widget ahead = null;
            for (Widget k = gone.parent.kid; k != null && k != gone; k = k.next) {
                ahead = k;
            }
            if (ahead == null) {
                gone.parent.kid = gone.next;
            } else {
                ahead.next = gone.next;
            }
            renumber(all[0]);
        }

        /** Whether w is this widget or in it. */
        static boolean within(Widget w, Widget around) {
            for (Widget up = w; up != null; up = up.parent) {
                if (up == around) {
                    return true;
                }
            }
            return false;
        }

        int rank(Widget w) {
            int n = 0;
            if (w.parent != null) {
                for (Widget k = w.parent.kid; k != null && k != w; k = k.next) {
                    n++;
                }
            }
            return n;
        }

        int movesUnderWay() {
            int n = 0;
            for (int i = 0; i < count; i++) {
                n += all[i].movesUnderWay();
            }
            return n;
        }

        // ---- values and states ----

        boolean checked(Widget w) {
            int bind = w.attributes[BIND];
            if (bind < 0 || (w.kind != CHECK && w.kind != RADIO)) {
                return false;
            }
            return w.kind == CHECK ? cells[bind] != 0 : cells[bind] == w.attributes[PICK];
        }

        static boolean isOff(Widget w) {
            for (Widget up = w; up != null; up = up.parent) {
                if (up.attributes[OFF] == 1) {
                    return true;
                }
            }
            return false;
        }

        int states(Widget w) {
            boolean over = within(hover, w);
            int states = over ? HOVERED : 0;
            states |= w == pressed && over ? PRESSED : 0;
            states |= w == focus ? FOCUSED : 0;
            states |= checked(w) ? CHECKED : 0;
            return states | (isOff(w) ? SWITCHED_OFF : 0);
        }

        int value(Widget w) {
            int bind = w.attributes[BIND];
            return bind >= 0 ? cells[bind] : w.attributes[LEAST];
        }

        void set(Widget w, long v) {
            int bind = w.attributes[BIND];
            if (bind >= 0) {
                long held = v;
                if (w.kind == SLIDER) {
                    held = Math.max(w.attributes[LEAST], Math.min(w.attributes[MOST], v));
                }
                cells[bind] = (int) held;
            }
        }

        /** What a button does. */
        void act(Widget w) {
            int c = w.attributes[DO];
            if (c < 0) {
                return;
            }
            int n = w.attributes[DO_NUMBER];
            if (w.attributes[DO_SIGN] == '+') {
                cells[c] += n;
            } else if (w.attributes[DO_SIGN] == '-') {
                cells[c] -= n;
            } else {
                cells[c] = n;
            }
        }

        private int choices(Widget w) {
            switch (w.kind) {
                case LIST: return w.attributes[ROWS];
                case TABS: return w.kids();
                case TREE: return w.rows.nodes;
                case TABLE: return data.count - 1;
                default: return 0;
            }
        }

        /** The row, node or page that is selected, or NONE. */
        int selected(Widget w) {
            if (w.rows == null) {
                return NONE;
            }
            int bind = w.attributes[BIND];
            int v = bind >= 0 ? cells[bind] : w.rows.latest;
            return v >= 0 && v < choices(w) ? v : NONE;
        }

        void select(Widget w, int row) {
            int bind = w.attributes[BIND];
            if (bind >= 0) {
                cells[bind] = row;
            } else {
                w.rows.latest = row;
            }
        }

        int shownCount(Widget w) {
            return w.kind == LIST ? w.attributes[ROWS] : w.rows.shownCount;
        }

        int shownAt(Widget w, int place) {
            return w.kind == LIST ? place : w.rows.shown[place];
        }

        int placeOf(Widget w, int row) {
            return w.kind == LIST ? row : w.rows.placeOf(row);
        }

        void showSelected(Widget w) {
            int place = placeOf(w, selected(w));
            if (place >= 0) {
                w.rows.show(place, w.wholeRows());
            }
        }

        /** Texts are to be looked for in the tongue anew. */
        void untell() {
            for (int i = 0; i < count; i++) {
                all[i].told = false;
            }
        }

        /** Finds the texts as they are shown: @ and a word of the tongue is that line's text. */
        void tell() {
            for (int i = 0; i < count; i++) {
                Widget w = all[i];
                if (!w.told) {
                    w.told = true;
                    boolean page = w.parent != null && w.parent.kind == TABS;
                    boolean told = w.text.length > 1 && w.text[0] == '@' && (page || isTold(w.kind));
                    int line = told ? tongue.find(w.text, 1, w.text.length) : NONE;
                    w.shown = line < 0 ? w.text : tongue.copyOf(line, 1);
                }
            }
        }

        void agedRows() {
            for (int i = 0; i < count; i++) {
                if (all[i].kind == TABLE) {
                    all[i].rows.aged = true;
                }
            }
        }

        void renewRows() {
            for (int i = 0; i < count; i++) {
                Widget w = all[i];
                if (w.kind == TREE && w.rows.aged) {
                    w.rows.renewTree();
                } else if (w.kind == TABLE && w.rows.aged) {
                    w.rows.renewTable(data);
                }
            }
        }

        int columnWide(Widget table, int c) {
            int columns = data.partsOf(0);
            int wide = table.contentWidth();
            int each = columns > 0 ? wide / columns : 0;
            return c == columns - 1 ? wide - each * c : each;
        }

        /** Where in a table's content a column stands. */
        int columnAt(Widget table, int c) {
            int columns = data.partsOf(0);
            int each = columns > 0 ? table.contentWidth() / columns : 0;
            return table.turned(each * c, columnWide(table, c));
        }

        // ---- dialogs, pointer, keys ----

        /** The dialogs that come to be open are the newest, in their order. */
        void raiseDialogs() {
            int kept = 0;
            for (int i = 0; i < newestCount; i++) {
                if (!newest[i].hidden) {
                    newest[kept] = newest[i];
                    kept++;
                }
            }
            newestCount = kept;
            for (int i = 0; i < count; i++) {
                if (isOpenDialog(all[i]) && !isRaised(all[i]) && newestCount < MOST_WIDGETS) {
                    newest[newestCount] = all[i];
                    newestCount++;
                }
            }
        }

        static boolean isOpenDialog(Widget w) {
            return w.kind == DIALOG && !w.hidden;
        }

        private boolean isRaised(Widget dialog) {
            for (int i = 0; i < newestCount; i++) {
                if (newest[i] == dialog) {
                    return true;
                }
            }
            return false;
        }

        Widget top() {
            for (int i = newestCount - 1; i >= 0; i--) {
                if (!newest[i].hidden) {
                    return newest[i];
                }
            }
            return null;
        }

        /** Puts the widgets that are not hidden into their order of painting. */
        void lineUp() {
            rowCount = 0;
            addHome(null);
            for (int i = 0; i < count; i++) {
                if (isOpenDialog(all[i]) && !isRaised(all[i])) {
                    addHome(all[i]);
                }
            }
            for (int i = 0; i < newestCount; i++) {
                if (!newest[i].hidden) {
                    addHome(newest[i]);
                }
            }
        }

        private void addHome(Widget dialog) {
            for (int i = 0; i < count; i++) {
                if (!all[i].hidden && all[i].home == dialog && rowCount < MOST_WIDGETS) {
                    row[rowCount] = all[i];
                    rowCount++;
                }
            }
        }

        /** The widget that is seen at a place, of those that can be reached. */
        Widget over(int x, int y) {
            Widget top = top();
            lineUp();
            for (int i = rowCount - 1; i >= 0; i--) {
                if ((top == null || row[i].home == top) && row[i].isSeenAt(x, y)) {
                    return row[i];
                }
            }
            return null;
        }

        Widget pressable(Widget from) {
            for (Widget w = from; w != null; w = w.parent) {
                if (canBePressed(w.kind) && !isOff(w)) {
                    return w;
                }
            }
            return null;
        }

        void endTyping() {
            if (focus != null && focus.field != null) {
                focus.field.typing = false;
            }
        }

        void focusOn(Widget w) {
            if (focus != w) {
                endTyping();
            }
            focus = w;
        }

        boolean canFocus(Widget w) {
            return canBePressed(w.kind) && !isLost(w, top());
        }

        private static boolean isLost(Widget w, Widget top) {
            return w.hidden || isOff(w) || (top != null && w.home != top);
        }

        /** Takes the button and the keys from what is off, hidden or beside the top dialog: whether there was such. */
        boolean dropLost() {
            Widget top = top();
            boolean button = pressed != null && isLost(pressed, top);
            boolean keys = focus != null && isLost(focus, top);
            if (button) {
                pressed = null;
            }
            if (keys) {
                focusOn(null);
            }
            return button || keys;
        }

        Widget nextFocus(boolean back) {
            Widget first = null;
            Widget last = null;
            Widget ahead = null;
            Widget behind = null;
            for (int i = 0; i < count; i++) {
                if (canFocus(all[i])) {
                    first = first == null ? all[i] : first;
                    last = all[i];
                    if (focus != null && i < focus.number) {
                        ahead = all[i];
                    }
                    if (focus != null && i > focus.number && behind == null) {
                        behind = all[i];
                    }
                }
            }
            if (back) {
                return ahead == null ? last : ahead;
            }
            return behind == null ? first : behind;
        }

        // ---- what is spoken and written ----

        int speak(Widget w, int k) {
            begin(k);
            putWordOf(KINDS, w.kind);
            if (isTold(w.kind)) {
                putText(w.shown);
            } else if (w.kind == FIELD) {
                putText(w.text);
            } else if (w.kind == SLIDER) {
                pass(' ');
                putNumber(value(w));
            } else if (selected(w) >= 0) {
                pass(' ');
                putNumber(selected(w));
            }
            putState(" checked", checked(w));
            putState(" focus", w == focus);
            putState(" off", isOff(w));
            return found;
        }

        private void begin(int k) {
            wanted = k;
            passed = 0;
            found = NONE;
        }

        private void pass(int c) {
            if (passed == wanted) {
                found = c;
            }
            passed++;
        }

        private void putState(String word, boolean is) {
            for (int i = 0; is && i < word.length(); i++) {
                pass(word.charAt(i));
            }
        }

        private void putText(char[] signs) {
            if (signs.length > 0) {
                pass(' ');
            }
            for (int i = 0; i < signs.length; i++) {
                pass(signs[i]);
            }
        }

        private void putWordOf(String words, int place) {
            int at = 0;
            for (int i = 0; i < words.length(); i++) {
                char c = words.charAt(i);
                if (c == ' ') {
                    at++;
                } else if (at == place) {
                    pass(c);
                }
            }
        }

        private void putWord(int mark, long word) {
            if (word != 0) {
                pass(mark);
            }
            for (int shift = 56; shift >= 0; shift -= 8) {
                int c = (int) (word >>> shift) & 255;
                if (c != 0) {
                    pass(c);
                }
            }
        }

        private void putNumber(int n) {
            long rest = Math.abs((long) n);
            if (n < 0) {
                pass('-');
            }
            long unit = 1;
            while (unit <= rest / 10) {
                unit *= 10;
            }
            for (; unit > 0; unit /= 10) {
                pass((int) ('0' + rest / unit % 10));
            }
        }

        int write(int k) {
            begin(k);
            for (int i = 0; i < count; i++) {
                Widget w = all[i];
                writeHead(w);
                if (w.kid != null) {
                    pass('{');
                    continue;
                }
                for (Widget up = w; up != null && up.parent != null; up = up.parent) {
                    if (up.next != null) {
                        pass(' ');
                        break;
                    }
                    pass('}');
                }
            }
            return found;
        }

        private void writeHead(Widget w) {
            putWordOf(KINDS, w.kind);
            putWord('#', w.name);
            for (int n = 0; n < w.classes.length; n++) {
                putWord('.', w.classes[n]);
            }
            int mark = '(';
            for (int a = 0; a <= DO; a++) {
                if (w.attributes[a] != ATTRIBUTE_FIRST[a]) {
                    pass(mark);
                    writeAttribute(w, a);
                    mark = ',';
                }
            }
            if (mark == ',') {
                pass(')');
            }
            if (w.text.length > 0) {
                pass('"');
                for (int i = 0; i < w.text.length; i++) {
                    pass(w.text[i]);
                }
                pass('"');
            }
        }

        private void writeAttribute(Widget w, int a) {
            putWordOf(ATTRIBUTES, a);
            pass('=');
            putNumber(w.attributes[a]);
            if (a == DO) {
                pass(w.attributes[DO_SIGN]);
                putNumber(w.attributes[DO_NUMBER]);
            }
        }
    }

    /** One set of style rules: reading it, and what it makes of the widgets. */
    private static final class Rules {
        static final int MOST_SELECTORS = 40;
        static final int MOST_COMPOUNDS = 4;
        static final int MOST_MARKS = 4;
        static final int MOST_DECLARATIONS = 8;

        int selectorCount;
        int declarationCount;
        private int ruleCount;
        // of each selector: its rule, its weight, how many compounds
        private final int[] rules = new int[MOST_SELECTORS];
        private final int[] weights = new int[MOST_SELECTORS];
        private final int[] lengths = new int[MOST_SELECTORS];
        // of each compound: its kind or NONE, whether the one ahead must be its parent, its marks
        private final int[] kinds = new int[MOST_SELECTORS * MOST_COMPOUNDS];
        private final boolean[] children = new boolean[MOST_SELECTORS * MOST_COMPOUNDS];
        private final int[] markCounts = new int[MOST_SELECTORS * MOST_COMPOUNDS];
        private final int[] marks = new int[MOST_SELECTORS * MOST_COMPOUNDS * MOST_MARKS];
        private final long[] words = new long[MOST_SELECTORS * MOST_COMPOUNDS * MOST_MARKS];
        // of each declaration: its rule, property and value
        private final int[] owners = new int[MOST_SELECTORS * MOST_DECLARATIONS];
        private final int[] properties = new int[MOST_SELECTORS * MOST_DECLARATIONS];
        private final int[] values = new int[MOST_SELECTORS * MOST_DECLARATIONS];
        // of each widget and selector: bit k if its compounds up to k fit with k here; the same of all around
        private final int[] here = new int[MOST_WIDGETS * MOST_SELECTORS];
        private final int[] around = new int[MOST_WIDGETS * MOST_SELECTORS];
        // of one widget: the weight of each rule, or NONE, and the greatest of each property
        private final int[] reached = new int[MOST_SELECTORS];
        private final int[] greatest = new int[SHAPE + 1];

        // ---- reading ----

        boolean read(Tape t) {
            selectorCount = 0;
            declarationCount = 0;
            ruleCount = 0;
            t.begin();
            t.blanks();
            for (int n = 0; n <= MOST_SELECTORS && !t.ended() && !t.failed(); n++) {
                readRule(t);
                ruleCount++;
                t.blanks();
            }
            return !t.failed();
        }

        private void readRule(Tape t) {
            for (int n = 0; n <= MOST_SELECTORS; n++) {
                t.blanks();
                readSelector(t);
                if (t.failed()) {
                    return;
                }
                t.blanks();
                if (!t.take(',')) {
                    break;
                }
            }
            t.need('{');
            for (int n = 0; n <= MOST_DECLARATIONS && !t.failed(); n++) {
                t.blanks();
                if (t.take('}')) {
                    return;
                }
                if (n == MOST_DECLARATIONS) {
                    t.fail(t.at);
                } else {
                    readDeclaration(t);
                }
            }
        }

        private void readSelector(Tape t) {
            if (selectorCount >= MOST_SELECTORS) {
                t.fail(t.at);
                return;
            }
            int s = selectorCount;
            rules[s] = ruleCount;
            weights[s] = 0;
            boolean child = false;
            for (int k = 0; k < MOST_COMPOUNDS; k++) {
                children[s * MOST_COMPOUNDS + k] = child;
                readCompound(t, s, k);
                lengths[s] = k + 1;
                int from = t.at;
                t.blanks();
                child = t.take('>');
                if (child) {
                    t.blanks();
                }
                boolean ends = t.at == from || (!child && (t.ended() || t.peek() == ',' || t.peek() == '{'));
                if (t.failed() || ends) {
                    selectorCount++;
                    return;
                }
            }
            t.fail(t.at);
        }

        private void readCompound(Tape t, int s, int k) {
            int c = s * MOST_COMPOUNDS + k;
            int from = t.at;
            kinds[c] = NONE;
            markCounts[c] = 0;
            if (Tape.isLower(t.peek())) {
                kinds[c] = find(KINDS, t.word());
                if (kinds[c] < 0) {
                    t.fail(from);
                }
                weights[s] += 1;
            } else {
                t.take('*');
            }
            for (int n = 0; n < MOST_MARKS && !t.failed(); n++) {
                int mark = t.peek();
                if (mark != '#' && mark != '.' && mark != ':') {
                    break;
                }
                t.at++;
                readMark(t, c * MOST_MARKS + n, mark);
                markCounts[c]++;
                weights[s] += mark == '#' ? 100 : 10;
            }
            if (t.at == from) {
                t.fail(from);
            }
        }

        private void readMark(Tape t, int m, int mark) {
            int from = t.at;
            marks[m] = mark;
            words[m] = t.word();
            if (mark == ':' && !t.failed()) {
                int state = find(STATES, words[m]);
                if (state < 0) {
                    t.fail(from);
                } else {
                    words[m] = 1 << state;
                }
            }
        }

        private void readDeclaration(Tape t) {
            int from = t.at;
            int property = find(PROPERTIES, t.word());
            if (property < 0) {
                t.fail(from);
                return;
            }
            t.blanks();
            t.need(':');
            if (t.failed()) {
                return;
            }
            t.blanks();
            int value = property <= EDGE ? readColour(t) : t.number(0, PROPERTY_MOST[property]);
            if (t.failed()) {
                return;
            }
            t.blanks();
            t.need(';');
            if (declarationCount < owners.length) {
                owners[declarationCount] = ruleCount;
                properties[declarationCount] = property;
                values[declarationCount] = value;
                declarationCount++;
            }
        }

        private static int readColour(Tape t) {
            int colour = 0;
            for (int n = 0; n < 8; n++) {
                int c = t.peek();
                if (Tape.isDigit(c)) {
                    colour = colour << 4 | c - '0';
                } else if (c >= 'a' && c <= 'f') {
                    colour = colour << 4 | c - 'a' + 10;
                } else {
                    t.fail(t.at);
                    return 0;
                }
                t.at++;
            }
            return colour;
        }

        // ---- what counts for a widget ----

        /** Gives a widget its values; those of the widgets around it are given already. */
        void apply(Widget w, int states) {
            Arrays.fill(reached, NONE);
            for (int s = 0; s < selectorCount; s++) {
                if (reaches(s, w, states)) {
                    reached[rules[s]] = Math.max(reached[rules[s]], weights[s]);
                }
            }
            for (int p = 0; p <= SHAPE; p++) {
                boolean handed = w.parent != null && (p == INK || p == DIR);
                w.style[p] = handed ? w.parent.style[p] : PROPERTY_FIRST[p];
                w.rule[p] = NONE;
                greatest[p] = 0;
            }
            for (int d = 0; d < declarationCount; d++) {
                int weight = reached[owners[d]];
                int p = properties[d];
                if (weight >= greatest[p]) {
                    greatest[p] = weight;
                    w.style[p] = values[d];
                    w.rule[p] = d;
                }
            }
            w.applyMoves();
        }

        private boolean reaches(int s, Widget w, int states) {
            int at = w.number * MOST_SELECTORS + s;
            int up = w.parent == null ? NONE : w.parent.number * MOST_SELECTORS + s;
            int parents = up < 0 ? 0 : here[up];
            around[at] = up < 0 ? 0 : around[up] | parents;
            here[at] = 0;
            for (int k = 0; k < lengths[s]; k++) {
                int c = s * MOST_COMPOUNDS + k;
                int ahead = children[c] ? parents : around[at];
                boolean led = k == 0 || (ahead >> k - 1 & 1) == 1;
                if (led && fits(c, w, states)) {
                    here[at] |= 1 << k;
                }
            }
            return (here[at] >> lengths[s] - 1 & 1) == 1;
        }

        private boolean fits(int c, Widget w, int states) {
            boolean fits = kinds[c] < 0 || kinds[c] == w.kind;
            for (int n = 0; fits && n < markCounts[c]; n++) {
                long word = words[c * MOST_MARKS + n];
                switch (marks[c * MOST_MARKS + n]) {
                    case '#':
                        fits = w.name == word;
                        break;
                    case '.':
                        fits = w.classes[0] == word || w.classes[1] == word || w.classes[2] == word;
                        break;
                    default:
                        fits = (states & word) != 0;
                        break;
                }
            }
            return fits;
        }
    }

    /** Styles, sizes and places of all widgets, counted anew when something has changed. */
    private static final class Layout {
        private final Form form;
        private final Letters letters;
        private final Stock stock;
        Rules rules = new Rules();
        private final int screenWide;
        private final int screenHigh;
        // the children that a box places
        private final Widget[] kids = new Widget[MOST_WIDGETS];
        private int kidCount;
        // a content's least width and height
        private final int[] size = new int[2];
        // a content's width and height as it is placed
        private final int[] room = new int[2];
        // of a grid: the widths of its columns, the heights of its rows
        private final int[][] spans = new int[2][MOST_WIDGETS];
        private final int[] spanCounts = new int[2];

        Layout(Form form, Letters letters, Stock stock, int screenWide, int screenHigh) {
            this.form = form;
            this.letters = letters;
            this.stock = stock;
            this.screenWide = screenWide;
            this.screenHigh = screenHigh;
        }

        void fresh() {
            if (!form.stale) {
                return;
            }
            form.stale = false;
            for (int i = 0; i < form.count; i++) {
                Widget w = form.all[i];
                rules.apply(w, form.states(w));
                Widget home = w.parent == null ? null : w.parent.home;
                w.home = w.kind == DIALOG ? w : home;
                w.hidden = isHidden(w);
            }
            for (int i = form.count - 1; i >= 0; i--) {
                Widget w = form.all[i];
                sized(0, 0);
                if (!w.hidden && isBox(w.kind)) {
                    gather(w);
                    measureBox(w);
                } else if (!w.hidden) {
                    measureContent(w);
                }
                w.place[Widget.LEAST_WIDE] = w.hidden ? 0 : Math.max(w.style[WIDE], 2 * w.frame() + size[0]);
                w.place[Widget.LEAST_HIGH] = w.hidden ? 0 : Math.max(w.style[TALL], 2 * w.frame() + size[1]);
            }
            for (int i = 0; i < form.count; i++) {
                placeTop(form.all[i]);
                look(form.all[i]);
                gather(form.all[i]);
                placeKids(form.all[i]);
            }
        }

        private boolean isHidden(Widget w) {
            if (w.style[HIDE] == 1 || (w.parent != null && w.parent.hidden)) {
                return true;
            }
            if (w.parent != null && w.parent.kind == TABS && form.selected(w.parent) != form.rank(w)) {
                return true;
            }
            int bind = w.attributes[BIND];
            return w.kind == DIALOG && (bind < 0 || form.cells[bind] == 0);
        }

        private void gather(Widget box) {
            kidCount = 0;
            for (Widget k = box.kid; k != null && kidCount < kids.length; k = k.next) {
                if (!k.hidden && k.kind != DIALOG) {
                    kids[kidCount] = k;
                    kidCount++;
                }
            }
        }

        private static int gaps(Widget box, int n) {
            return n > 1 ? (n - 1) * box.style[GAP] : 0;
        }

        // ---- least sizes ----

        private void sized(int wide, int high) {
            size[0] = wide;
            size[1] = high;
        }

        private void measureContent(Widget w) {
            switch (w.kind) {
                case LABEL:
                case BUTTON:
                    measureText(w);
                    break;
                case CHECK:
                case RADIO:
                    letters.take(w.shown);
                    sized(7 + letters.width(), ROW_LINES);
                    break;
                case FIELD:
                    sized(5 * w.attributes[SIGNS] + 1, ROW_LINES);
                    break;
                case SLIDER:
                    sized(20, ROW_LINES);
                    break;
                case LIST:
                    sized(30, ROW_LINES * Math.min(4, w.attributes[ROWS]));
                    break;
                case TREE:
                    sized(30, ROW_LINES * Math.min(4, w.rows.nodes));
                    break;
                case TABLE:
                    sized(40, ROW_LINES + ROW_LINES * Math.max(0, Math.min(4, form.data.count - 1)));
                    break;
                case PICTURE:
                    sized(stock.widths[w.attributes[IMG]], stock.heights[w.attributes[IMG]]);
                    break;
                default:
                    break;
            }
        }

        private void measureText(Widget w) {
            letters.take(w.shown);
            if (w.kind == LABEL && w.attributes[WRAP] == 1) {
                int wide = letters.widestWord();
                letters.breakRows(wide);
                sized(wide, ROW_LINES * letters.rows);
            } else {
                sized(letters.width(), ROW_LINES);
            }
        }

        private void measureBox(Widget w) {
            switch (w.kind) {
                case ROW:
                    measureLine(w, 0);
                    break;
                case COL:
                    measureLine(w, 1);
                    break;
                case GRID:
                    measureGrid(w);
                    sized(spanned(w, 0), spanned(w, 1));
                    break;
                case FLOW:
                    measureFlow(w);
                    break;
                case SCROLL:
                    sized(12, 12);
                    break;
                case TABS:
                    measureTabs(w);
                    break;
                default:
                    sized(widest(0), widest(1));
                    break;
            }
        }

        private int widest(int axis) {
            int most = 0;
            for (int i = 0; i < kidCount; i++) {
                most = Math.max(most, kids[i].place[Widget.LEAST_WIDE + axis]);
            }
            return most;
        }

        private void measureLine(Widget box, int axis) {
            size[axis] = gaps(box, kidCount);
            for (int i = 0; i < kidCount; i++) {
                size[axis] += kids[i].place[Widget.LEAST_WIDE + axis];
            }
            size[1 - axis] = widest(1 - axis);
        }

        private void measureGrid(Widget box) {
            int cols = Math.max(1, box.attributes[COLS]);
            spanCounts[0] = cols;
            spanCounts[1] = (kidCount + cols - 1) / cols;
            Arrays.fill(spans[0], 0);
            Arrays.fill(spans[1], 0);
            for (int i = 0; i < kidCount; i++) {
                spans[0][i % cols] = Math.max(spans[0][i % cols], kids[i].place[Widget.LEAST_WIDE]);
                spans[1][i / cols] = Math.max(spans[1][i / cols], kids[i].place[Widget.LEAST_HIGH]);
            }
        }

        private int spanned(Widget box, int axis) {
            int sum = gaps(box, spanCounts[axis]);
            for (int i = 0; i < spanCounts[axis]; i++) {
                sum += spans[axis][i];
            }
            return sum;
        }

        private void measureFlow(Widget box) {
            measureLine(box, 0);
            int limit = box.style[WIDE] - 2 * box.frame();
            if (box.style[WIDE] == 0 || size[0] <= limit) {
                return;
            }
            int wide = Math.max(limit, widest(0));
            int high = 0;
            int rows = 0;
            for (int i = 0; i < kidCount; i++) {
                int end = flowEnd(box, i, wide);
                high += flowHigh(i, end);
                rows++;
                i = end - 1;
            }
            sized(wide, high + gaps(box, rows));
        }

        /** The end of a flow's row that begins with this child. */
        private int flowEnd(Widget box, int from, int limit) {
            int end = from + 1;
            int wide = kids[from].place[Widget.LEAST_WIDE];
            while (end < kidCount && wide + box.style[GAP] + kids[end].place[Widget.LEAST_WIDE] <= limit) {
                wide += box.style[GAP] + kids[end].place[Widget.LEAST_WIDE];
                end++;
            }
            return end;
        }

        private int flowHigh(int from, int end) {
            int high = 0;
            for (int i = from; i < end; i++) {
                high = Math.max(high, kids[i].place[Widget.LEAST_HIGH]);
            }
            return high;
        }

        private void measureTabs(Widget w) {
            int wide = 0;
            for (Widget k = w.kid; k != null; k = k.next) {
                wide += letters.titleWide(k);
            }
            sized(Math.max(wide, widest(0)), HEADER_LINES + widest(1));
        }

        // ---- places ----

        /** Places what no box places: widget 0, dialogs, and hidden ones. */
        private void placeTop(Widget w) {
            if (w.hidden) {
                Arrays.fill(w.place, 0, 4, 0);
            } else if (w.kind == DIALOG) {
                w.place[2] = Math.min(screenWide, w.place[Widget.LEAST_WIDE]);
                w.place[3] = Math.min(screenHigh, w.place[Widget.LEAST_HIGH]);
                w.place[0] = (screenWide - w.place[2]) / 2;
                w.place[1] = (screenHigh - w.place[3]) / 2;
            } else if (w.parent == null) {
                w.place[0] = 0;
                w.place[1] = 0;
                w.place[2] = screenWide;
                w.place[3] = screenHigh;
            }
        }

        /** Where a widget's content is, and what is visible of both. */
        private void look(Widget w) {
            int[] seen = w.seen;
            int[] place = w.place;
            int frame = w.frame();
            place[6] = place[0] + frame;
            place[7] = place[1] + frame;
            place[8] = Math.max(0, place[2] - 2 * frame);
            place[9] = Math.max(0, place[3] - 2 * frame);
            boolean free = w.parent == null || w.kind == DIALOG;
            int left = free ? 0 : w.parent.seen[4];
            int top = free ? 0 : w.parent.seen[5];
            int right = free ? screenWide : w.parent.seen[6];
            int bottom = free ? screenHigh : w.parent.seen[7];
            seen[0] = Math.max(left, place[0]);
            seen[1] = Math.max(top, place[1]);
            seen[2] = Math.min(right, place[0] + place[2]);
            seen[3] = Math.min(bottom, place[1] + place[3]);
            seen[4] = Math.max(left, place[6]);
            seen[5] = Math.max(top, place[7]);
            seen[6] = Math.min(right, place[6] + place[8]);
            seen[7] = Math.min(bottom, place[7] + place[9]);
            for (int i = 0; i < 8; i += 4) {
                if (w.hidden || seen[i] >= seen[i + 2] || seen[i + 1] >= seen[i + 3]) {
                    Arrays.fill(seen, i, i + 4, 0);
                }
            }
        }

        private void placeKids(Widget w) {
            room[0] = w.place[8];
            room[1] = w.place[9];
            switch (w.kind) {
                case ROW:
                    placeLine(w, 0);
                    break;
                case COL:
                    placeLine(w, 1);
                    break;
                case GRID:
                    placeGrid(w);
                    break;
                case FLOW:
                    placeFlow(w);
                    break;
                case SCROLL:
                    placeScrolled(w);
                    break;
                case TABS:
                    if (kidCount > 0) {
                        stand(w, kids[0], 0, HEADER_LINES, room[0], Math.max(0, room[1] - HEADER_LINES));
                    }
                    break;
                default:
                    for (int i = 0; i < kidCount; i++) {
                        placeIn(w, kids[i], 0, 0, room[0], room[1]);
                    }
                    break;
            }
        }

        /** Puts a child at a place of the content, which stands turned with dir 1. */
        private static void stand(Widget box, Widget kid, int x, int y, int wide, int high) {
            int turned = box.place[8] - x - wide;
            kid.place[0] = box.place[6] + (box.style[DIR] == 1 ? turned : x);
            kid.place[1] = box.place[7] + y;
            kid.place[2] = wide;
            kid.place[3] = high;
        }

        /** Puts a child into a cell of the content by the box's align. */
        private static void placeIn(Widget box, Widget kid, int x, int y, int wide, int high) {
            int align = box.style[ALIGN];
            int w = aligned(align, wide, kid.place[Widget.LEAST_WIDE]);
            int h = aligned(align, high, kid.place[Widget.LEAST_HIGH]);
            stand(box, kid, x + shift(align, wide - w), y + shift(align, high - h), w, h);
        }

        private static int aligned(int align, int whole, int least) {
            return align == 3 ? whole : least;
        }

        private static int shift(int align, int rest) {
            if (rest <= 0 || align == 0) {
                return 0;
            }
            return align == 1 ? rest / 2 : rest;
        }

        private void placeLine(Widget box, int axis) {
            int grows = 0;
            int left = room[axis] - gaps(box, kidCount);
            for (int i = 0; i < kidCount; i++) {
                grows += kids[i].style[GROW];
                left -= kids[i].place[Widget.LEAST_WIDE + axis];
            }
            int given = 0;
            for (int i = 0; i < kidCount; i++) {
                given += share(left, kids[i].style[GROW], grows);
            }
            int more = grows > 0 ? Math.max(0, left) - given : 0;
            int at = 0;
            for (int i = 0; i < kidCount; i++) {
                Widget k = kids[i];
                int along = k.place[Widget.LEAST_WIDE + axis] + share(left, k.style[GROW], grows);
                if (more > 0 && k.style[GROW] != 0) {
                    along++;
                    more--;
                }
                if (axis == 0) {
                    int high = aligned(box.style[ALIGN], room[1], k.place[Widget.LEAST_HIGH]);
                    stand(box, k, at, shift(box.style[ALIGN], room[1] - high), along, high);
                } else {
                    int wide = aligned(box.style[ALIGN], room[0], k.place[Widget.LEAST_WIDE]);
                    stand(box, k, shift(box.style[ALIGN], room[0] - wide), at, wide, along);
                }
                at += along + box.style[GAP];
            }
        }

        private static int share(int left, int grow, int grows) {
            return left > 0 && grows > 0 ? left * grow / grows : 0;
        }

        private void placeGrid(Widget box) {
            measureGrid(box);
            spread(box, 0);
            spread(box, 1);
            int cols = Math.max(1, spanCounts[0]);
            int y = 0;
            for (int i = 0; i < kidCount; i += cols) {
                int high = spans[1][i / cols];
                int x = 0;
                for (int c = 0; c < cols && i + c < kidCount; c++) {
                    placeIn(box, kids[i + c], x, y, spans[0][c], high);
                    x += spans[0][c] + box.style[GAP];
                }
                y += high + box.style[GAP];
            }
        }

        /** Gives what is left to all columns, or rows, alike. */
        private void spread(Widget box, int axis) {
            int n = spanCounts[axis];
            int left = room[axis] - spanned(box, axis);
            if (n < 1 || left <= 0) {
                return;
            }
            for (int i = 0; i < n; i++) {
                spans[axis][i] += left / n + (i < left % n ? 1 : 0);
            }
        }

        private void placeFlow(Widget box) {
            int y = 0;
            for (int from = 0; from < kidCount; from++) {
                int end = flowEnd(box, from, room[0]);
                int x = 0;
                for (int i = from; i < end; i++) {
                    stand(box, kids[i], x, y, kids[i].place[Widget.LEAST_WIDE], kids[i].place[Widget.LEAST_HIGH]);
                    x += kids[i].place[Widget.LEAST_WIDE] + box.style[GAP];
                }
                y += flowHigh(from, end) + box.style[GAP];
                from = end - 1;
            }
        }

        private void placeScrolled(Widget box) {
            if (kidCount > 0) {
                int wide = Math.max(room[0], kids[0].place[Widget.LEAST_WIDE]);
                int high = Math.max(room[1], kids[0].place[Widget.LEAST_HIGH]);
                stand(box, kids[0], 0, -Math.min(box.rows.top, high - room[1]), wide, high);
            }
        }

        /** Holds what is scrolled, the top, the view within what there is now. */
        void hold(Widget w) {
            if (w.kind == SCROLL && !w.hidden) {
                w.rows.top = Math.min(w.rows.top, w.scrollRoom());
            }
            if (w.kind == TREE || w.kind == TABLE) {
                w.rows.top = Math.max(0, Math.min(w.rows.top, w.rows.shownCount - 1));
            }
            if (w.field != null && !w.hidden) {
                w.field.look(w, letters, w.contentWidth());
            }
        }
    }

    /** The pixels, and what was painted latest of each widget. */
    private static final class Painter {
        static final int WHITE = 0xffffffff;

        final int width;
        final int height;
        final int[] pixels;
        private final boolean[] dirty;
        boolean all = true;
        int total;
        private final Form form;
        private final Letters letters;
        private final Stock stock;
        // left, top, right, bottom of where may be painted
        private final int[] clip = new int[4];
        // what one widget is like now
        private final int[] look = new int[3000];
        private int lookCount;
        // as they were at the latest paint
        private final Widget[] dialogs = new Widget[MOST_WIDGETS];
        private int dialogCount;
        private final Lines paintedData = new Lines();
        private final Stock paintedStock = new Stock();

        Painter(Form form, Letters letters, Stock stock, int width, int height) {
            this.form = form;
            this.letters = letters;
            this.stock = stock;
            this.width = width;
            this.height = height;
            pixels = new int[width * height];
            dirty = new boolean[width * height];
            Arrays.fill(pixels, WHITE);
        }

        // ---- what is dirty ----

        /** Whitens what is dirty: how many pixels. */
        int clean() {
            markChanged();
            int n = 0;
            for (int i = 0; i < pixels.length; i++) {
                dirty[i] |= all;
                if (dirty[i]) {
                    pixels[i] = WHITE;
                    n++;
                }
            }
            all = false;
            total += n;
            return n;
        }

        void done() {
            for (int i = 0; i < dirty.length; i++) {
                dirty[i] = false;
            }
        }

        private void mark(int[] bounds, int at) {
            for (int y = Math.max(0, bounds[at + 1]); y < Math.min(height, bounds[at + 3]); y++) {
                for (int x = Math.max(0, bounds[at]); x < Math.min(width, bounds[at + 2]); x++) {
                    dirty[y * width + x] = true;
                }
            }
        }

        /** What was painted of a widget that goes, and of all in it, is dirty. */
        void forget(Widget gone) {
            for (int i = 0; i < form.count; i++) {
                Widget w = form.all[i];
                if (Form.within(w, gone) && w.painted.length > 8) {
                    mark(w.painted, 4);
                }
            }
        }

        private void markChanged() {
            boolean sameData = paintedData.same(form.data);
            for (int i = 0; i < form.count; i++) {
                Widget w = form.all[i];
                describe(w);
                int shape = w.style[SHAPE];
                boolean same = isAsPainted(w) && (shape == 0 || stock.sameShape(paintedStock, shape));
                same = same && (w.kind != TABLE || sameData);
                same = same && (w.kind != PICTURE || stock.sameImage(paintedStock, w.attributes[IMG]));
                if (!same) {
                    if (w.painted.length > 8) {
                        mark(w.painted, 4);
                    }
                    mark(w.seen, 0);
                    keepLook(w);
                }
            }
            if (!sameData) {
                paintedData.copy(form.data);
            }
            paintedStock.copy(stock);
            markDialogs();
        }

        private void markDialogs() {
            form.lineUp();
            int n = 0;
            boolean same = true;
            for (int i = 0; i < form.rowCount; i++) {
                if (form.row[i].kind == DIALOG) {
                    same = same && n < dialogCount && dialogs[n] == form.row[i];
                    dialogs[n] = form.row[i];
                    n++;
                }
            }
            same = same && n == dialogCount;
            dialogCount = n;
            for (int i = 0; !same && i < n; i++) {
                mark(dialogs[i].seen, 0);
            }
        }

        private boolean isAsPainted(Widget w) {
            if (w.painted.length != lookCount) {
                return false;
            }
            for (int i = 0; i < lookCount; i++) {
                if (w.painted[i] != look[i]) {
                    return false;
                }
            }
            return true;
        }

        private void keepLook(Widget w) {
            if (w.painted.length != lookCount) {
                w.painted = new int[lookCount];
            }
            System.arraycopy(look, 0, w.painted, 0, lookCount);
        }

        private void add(int n) {
            if (lookCount < look.length) {
                look[lookCount] = n;
                lookCount++;
            }
        }

        private void addText(char[] text) {
            add(text.length);
            for (int i = 0; i < text.length; i++) {
                add(text[i]);
            }
        }

        /** Writes down all of a widget that can be seen in its pixels: its place and what is visible first. */
        private void describe(Widget w) {
            lookCount = 0;
            for (int i = 0; i < 4; i++) {
                add(w.place[i]);
            }
            for (int i = 0; i < 4; i++) {
                add(w.seen[i]);
            }
            for (int p = INK; p <= PAD; p++) {
                add(w.style[p]);
            }
            add(w.style[DIR]);
            add(w.style[SHAPE]);
            add(w.hidden ? 1 : 0);
            add(form.checked(w) ? 1 : 0);
            add(w == form.focus ? 1 : 0);
            addText(w.field == null ? w.shown : w.text);
            if (w.kind == SLIDER) {
                add(form.value(w));
            }
            if (w.field != null) {
                add(w.field.caret);
                add(w.field.anchor);
                add(w.field.view);
            }
            if (w.rows != null && w.kind != SCROLL) {
                describeRows(w);
            }
        }

        private void describeRows(Widget w) {
            Rows r = w.rows;
            add(form.selected(w));
            add(r.top);
            add(r.sort);
            add(r.falling ? 1 : 0);
            addText(r.filter);
            for (int n = 0; n < r.nodes; n++) {
                add(r.opened[n] ? 1 : 0);
            }
            if (w.kind == TABS) {
                for (Widget k = w.kid; k != null; k = k.next) {
                    addText(k.shown);
                }
            }
        }

        // ---- painting ----

        void draw(Widget w) {
            clipTo(w.seen, 0);
            if (clip[0] >= clip[2]) {
                return;
            }
            fill(w.place[0], w.place[1], w.place[2], w.place[3], w.style[PAPER]);
            if (w.style[SHAPE] > 0) {
                drawShape(w);
            }
            drawEdge(w, w.style[LINE]);
            clipTo(w.seen, 4);
            drawContent(w);
            clipTo(w.seen, 0);
            if (w == form.focus) {
                turnEdge(w);
            }
        }

        private void clipTo(int[] bounds, int at) {
            System.arraycopy(bounds, at, clip, 0, 4);
        }

        /** A colour comes over a pixel, if it is dirty and may be painted. */
        private void over(int x, int y, int colour) {
            if (x < clip[0] || y < clip[1] || x >= clip[2] || y >= clip[3]) {
                return;
            }
            int at = y * width + x;
            if (dirty[at]) {
                int a = colour >>> 24;
                int mixed = 255;
                for (int shift = 16; shift >= 0; shift -= 8) {
                    int was = pixels[at] >>> shift & 255;
                    int own = colour >>> shift & 255;
                    mixed = mixed << 8 | ((255 - a) * was + a * own + 127) / 255;
                }
                pixels[at] = mixed;
            }
        }

        private void fill(int x, int y, int wide, int high, int colour) {
            if (colour >>> 24 == 0) {
                return;
            }
            for (int j = Math.max(y, clip[1]); j < Math.min(y + high, clip[3]); j++) {
                for (int i = Math.max(x, clip[0]); i < Math.min(x + wide, clip[2]); i++) {
                    over(i, j, colour);
                }
            }
        }

        private void drawShape(Widget w) {
            int ink = w.style[INK];
            for (int y = clip[1]; y < clip[3]; y++) {
                int from = clip[0] - w.place[0];
                int to = clip[2] - w.place[0];
                stock.coverRow(w.style[SHAPE], w.place[2], w.place[3], y - w.place[1], from, to);
                for (int x = clip[0]; x < clip[2]; x++) {
                    int a = (ink >>> 24) * stock.covers[x - clip[0]] / 16;
                    over(x, y, a << 24 | ink & 0xffffff);
                }
            }
        }

        private static boolean isEdge(Widget w, int x, int y, int line) {
            int i = x - w.place[0];
            int j = y - w.place[1];
            return i < line || j < line || i >= w.place[2] - line || j >= w.place[3] - line;
        }

        private void drawEdge(Widget w, int line) {
            for (int y = clip[1]; line > 0 && y < clip[3]; y++) {
                for (int x = clip[0]; x < clip[2]; x++) {
                    if (isEdge(w, x, y, line)) {
                        over(x, y, w.style[EDGE]);
                    }
                }
            }
        }

        private void turnEdge(Widget w) {
            for (int y = clip[1]; y < clip[3]; y++) {
                for (int x = clip[0]; x < clip[2]; x++) {
                    if (isEdge(w, x, y, 1) && dirty[y * width + x]) {
                        pixels[y * width + x] ^= 0xffffff;
                    }
                }
            }
        }

        private static int half(int rest) {
            return Math.max(0, rest) / 2;
        }

        private void drawContent(Widget w) {
            switch (w.kind) {
                case LABEL:
                    drawLabel(w);
                    break;
                case BUTTON:
                    drawButton(w);
                    break;
                case CHECK:
                case RADIO:
                    drawCheck(w);
                    break;
                case FIELD:
                    drawField(w);
                    break;
                case SLIDER:
                    drawSlider(w);
                    break;
                case LIST:
                    drawList(w);
                    break;
                case TABS:
                    drawTabs(w);
                    break;
                case TREE:
                    drawTree(w);
                    break;
                case TABLE:
                    drawTable(w);
                    break;
                case PICTURE:
                    drawPicture(w);
                    break;
                default:
                    break;
            }
        }

        /** Signs that are placed, from the left on. */
        private void drawPlaced(int n, int x, int y, int colour) {
            int at = x;
            for (int k = 0; k < n; k++) {
                char c = letters.placed[k];
                drawSign(c, at, y, colour);
                at += letters.wide(c);
            }
        }

        private void drawSign(char c, int x, int y, int colour) {
            for (int i = 0; i + 1 < letters.wide(c); i++) {
                for (int j = 0; j < 5; j++) {
                    if (letters.isSet(c, i, j)) {
                        over(x + i, y + j, colour);
                    }
                }
            }
        }

        private void drawLabel(Widget w) {
            letters.rowsOf(w);
            for (int i = 0; i < letters.rows; i++) {
                int wide = letters.between(letters.signs, letters.starts[i], letters.ends[i]);
                int n = letters.order(letters.starts[i], letters.ends[i], w.style[DIR]);
                drawPlaced(n, w.contentX() + w.turned(0, wide), w.contentY() + ROW_LINES * i, w.style[INK]);
            }
        }

        private void drawButton(Widget w) {
            letters.take(w.shown);
            int x = w.contentX() + half(w.contentWidth() - letters.width());
            int y = w.contentY() + half(w.contentHeight() - ROW_LINES);
            int n = letters.order(0, letters.count, w.style[DIR]);
            drawPlaced(n, x, y, w.style[INK]);
        }

        private void drawCheck(Widget w) {
            int ink = w.style[INK];
            int x = w.contentX() + w.turned(0, 6);
            int y = w.contentY() + half(w.contentHeight() - ROW_LINES);
            for (int i = 0; i < 6; i++) {
                for (int j = 0; j < 6; j++) {
                    boolean side = i == 0 || i == 5;
                    boolean end = j == 0 || j == 5;
                    boolean inner = i > 1 && i < 4 && j > 1 && j < 4;
                    boolean corner = side && end && w.kind == RADIO;
                    if (((side || end) && !corner) || (inner && form.checked(w))) {
                        over(x + i, y + j, ink);
                    }
                }
            }
            letters.take(w.shown);
            int n = letters.order(0, letters.count, w.style[DIR]);
            drawPlaced(n, w.contentX() + w.turned(7, letters.width()), y, ink);
        }

        private static int opaque(int colour) {
            return 0xff000000 | colour;
        }

        private void drawField(Widget w) {
            Field f = w.field;
            int x = w.contentX();
            int y = w.contentY() + half(w.contentHeight() - ROW_LINES);
            for (int i = f.view; i < w.text.length; i++) {
                char c = w.text[i];
                boolean selected = i >= f.from() && i < f.to();
                if (selected) {
                    fill(x, y, letters.wide(c), 5, w.style[INK]);
                }
                drawSign(c, x, y, selected ? opaque(w.style[PAPER]) : w.style[INK]);
                x += letters.wide(c);
            }
            if (w == form.focus) {
                int caret = w.contentX() + letters.between(w.text, f.view, f.caret);
                fill(caret, y, 1, ROW_LINES, w.style[INK]);
            }
        }

        private void drawSlider(Widget w) {
            int wide = w.contentWidth();
            int high = w.contentHeight();
            if (high > 0) {
                fill(w.contentX(), w.contentY() + (high - 1) / 2, wide, 1, w.style[INK]);
            }
            int least = w.attributes[LEAST];
            int range = w.attributes[MOST] - least;
            long way = Math.max(0, wide - 3);
            long at = 0;
            if (range > 0) {
                at = Math.max(0L, Math.min(way, way * ((long) form.value(w) - least) / range));
            }
            fill(w.contentX() + w.turned((int) at, 3), w.contentY(), 3, high, w.style[INK]);
        }

        /** The ground of a row of a list, tree or table: the colour of its letters. */
        private int drawGround(Widget w, int row, int y) {
            if (form.selected(w) != row) {
                return w.style[INK];
            }
            fill(w.contentX(), y, w.contentWidth(), ROW_LINES, w.style[INK]);
            return opaque(w.style[PAPER]);
        }

        private void drawList(Widget w) {
            for (int line = 0; line < w.contentHeight(); line += ROW_LINES) {
                int row = w.rows.top + line / ROW_LINES;
                if (row >= w.attributes[ROWS]) {
                    return;
                }
                int y = w.contentY() + line;
                int colour = drawGround(w, row, y);
                letters.takeNumber(row);
                int n = letters.order(0, letters.count, w.style[DIR]);
                drawPlaced(n, w.contentX() + w.turned(0, letters.width()), y, colour);
            }
        }

        private void drawTree(Widget w) {
            Rows r = w.rows;
            for (int line = 0; line < w.contentHeight(); line += ROW_LINES) {
                int place = r.top + line / ROW_LINES;
                if (place >= r.shownCount) {
                    return;
                }
                int node = r.shown[place];
                int x = w.contentX() + 4 * r.depths[node];
                int y = w.contentY() + line;
                int colour = drawGround(w, node, y);
                if (r.branches[node]) {
                    drawSign(r.opened[node] ? '-' : '+', x, y, colour);
                }
                drawSign(r.signs[node], x + 6, y, colour);
            }
        }

        private void drawTable(Widget w) {
            if (form.data.count == 0) {
                return;
            }
            drawLine(w, 0, w.contentY(), w.style[INK]);
            for (int line = ROW_LINES; line < w.contentHeight(); line += ROW_LINES) {
                int place = w.rows.top + line / ROW_LINES - 1;
                if (place >= w.rows.shownCount) {
                    return;
                }
                int row = w.rows.shown[place];
                int y = w.contentY() + line;
                drawLine(w, row + 1, y, drawGround(w, row, y));
            }
        }

        /** A line of the data, each part within its column. */
        private void drawLine(Widget w, int line, int y, int colour) {
            for (int c = 0; c < form.data.partsOf(0); c++) {
                int x = w.contentX() + form.columnAt(w, c);
                clip[0] = Math.max(w.seen[4], x);
                clip[2] = Math.min(w.seen[6], x + form.columnWide(w, c) - 1);
                letters.takePart(form.data, line, c);
                int n = letters.order(0, letters.count, w.style[DIR]);
                drawPlaced(n, x, y, colour);
                if (line == 0 && w.rows.sort == c) {
                    drawSign(w.rows.falling ? '-' : '+', x + letters.width(), y, colour);
                }
            }
            clipTo(w.seen, 4);
        }

        private void drawTabs(Widget w) {
            int at = 0;
            int page = 0;
            for (Widget k = w.kid; k != null; k = k.next) {
                int wide = letters.titleWide(k);
                int x = w.contentX() + w.turned(at, wide);
                letters.take(k.shown);
                int n = letters.order(0, letters.count, w.style[DIR]);
                drawPlaced(n, x + 2, w.contentY() + 1, w.style[INK]);
                if (form.selected(w) == page) {
                    fill(x, w.contentY() + HEADER_LINES - 1, wide, 1, w.style[INK]);
                }
                at += wide;
                page++;
            }
        }

        private void drawPicture(Widget w) {
            int n = w.attributes[IMG];
            int x = w.contentX() + half(w.contentWidth() - stock.widths[n]);
            int y = w.contentY() + half(w.contentHeight() - stock.heights[n]);
            for (int j = Math.max(y, clip[1]); j < Math.min(y + stock.heights[n], clip[3]); j++) {
                for (int i = Math.max(x, clip[0]); i < Math.min(x + stock.widths[n], clip[2]); i++) {
                    int at = j * width + i;
                    if (dirty[at]) {
                        pixels[at] = laid(stock.lanes[n][(j - y) * Stock.SIDE + i - x], pixels[at]);
                    }
                }
            }
        }

        /** An image's pixel, whose lanes are shared by A already, onto a pixel of the screen. */
        private static int laid(int own, int was) {
            int out = 255;
            for (int shift = 16; shift >= 0; shift -= 8) {
                int lane = (own >>> shift & 255) + Stock.times(was >>> shift & 255, 255 - (own >>> 24));
                out = out << 8 | Math.min(255, lane);
            }
            return out;
        }
    }
}
