import java.util.ArrayList;
import java.util.HashMap;
import java.util.List;
import java.util.Map;
import java.util.Set;
import java.util.TreeSet;

/** A widget of the second, plain kit: what it was told, what came of it, what was counted of it latest. */
final class PlainWidget {
    static final List<String> KINDS = List.of("row", "col", "grid", "stack", "flow", "scroll", "label", "button", "check",
        "radio", "field", "slider", "list", "gap", "tabs", "dialog", "tree", "table", "picture");
    private static final Set<String> BOXES = Set.of("row", "col", "grid", "stack", "flow", "scroll", "tabs", "dialog");
    private static final Set<String> TOLD = Set.of("label", "button", "check", "radio");
    private static final Set<String> CHOSEN = Set.of("list", "tabs", "tree", "table");
    private static final Set<String> PRESSED = Set.of("button", "check", "radio", "field", "slider", "list", "tabs", "tree", "table");

    /** A field's text, caret and anchor ahead of a change. */
    record Step(String text, int caret, int anchor) {
    }

    /** A node of a tree: the one around it (or -1), how many are around it. */
    record Node(char sign, int up, int depth) {
    }

    final String kind;
    String name = "";
    final List<String> classes = new ArrayList<>();
    final Map<String, Integer> told = new HashMap<>();
    String text = "";
    PlainWidget parent;
    final List<PlainWidget> kids = new ArrayList<>();
    int caret;
    int anchor;
    int view;
    boolean typing;
    final List<Step> done = new ArrayList<>();
    final List<Step> undone = new ArrayList<>();
    int latest;
    int top;
    final Set<Integer> opened = new TreeSet<>();
    int sort = -1;
    boolean falling;
    String filter = "";
    final Map<Integer, Integer> moved = new HashMap<>();
    int[] style = new int[13];
    int[] rule = new int[13];
    boolean hidden;
    PlainWidget home;
    int[] least = new int[2];
    // x, y, width, height
    int[] place = new int[4];
    int[] content = new int[4];
    // left, top, right, bottom
    int[] seen = new int[4];
    int[] inner = new int[4];
    String painted = "";
    int[] paintedSeen = new int[4];

    PlainWidget(String kind) {
        this.kind = kind;
        latest = kind.equals("tabs") ? 0 : -1;
    }

    boolean is(String other) {
        return kind.equals(other);
    }

    boolean isBox() {
        return BOXES.contains(kind);
    }

    boolean isTold() {
        return TOLD.contains(kind);
    }

    boolean isChosen() {
        return CHOSEN.contains(kind);
    }

    boolean canBePressed() {
        return PRESSED.contains(kind);
    }

    boolean isPage() {
        return parent != null && parent.is("tabs");
    }

    int told(String attribute, int first) {
        return told.getOrDefault(attribute, first);
    }

    /** The cell, or -1. */
    int bind() {
        return told("bind", -1);
    }

    int frame() {
        return style[3] + style[4];
    }

    boolean isIn(PlainWidget around) {
        for (PlainWidget up = this; up != null; up = up.parent) {
            if (up == around) {
                return true;
            }
        }
        return false;
    }

    boolean isOff() {
        return told("off", 0) == 1 || (parent != null && parent.isOff());
    }

    /** It and all that is in it, in their order. */
    List<PlainWidget> all() {
        List<PlainWidget> all = new ArrayList<>(List.of(this));
        for (PlainWidget kid : kids) {
            all.addAll(kid.all());
        }
        return all;
    }

    /** How many boxes are around something in it. */
    int depth() {
        return parent == null ? 1 : 1 + parent.depth();
    }

    /** The children that it places. */
    List<PlainWidget> placed() {
        List<PlainWidget> placed = new ArrayList<>(kids);
        placed.removeIf(kid -> kid.hidden || kid.is("dialog"));
        return placed;
    }

    List<Node> nodes() {
        List<Node> nodes = new ArrayList<>();
        List<Integer> around = new ArrayList<>();
        int latest = -1;
        for (char c : text.toCharArray()) {
            if (Character.isLetterOrDigit(c)) {
                latest = nodes.size();
                nodes.add(new Node(c, around.isEmpty() ? -1 : around.get(around.size() - 1), around.size()));
            } else if (c == '(' && latest >= 0) {
                around.add(latest);
                latest = -1;
            } else if (c == ')' && !around.isEmpty()) {
                latest = around.remove(around.size() - 1);
            }
        }
        return nodes;
    }

    boolean hasNodes(int node) {
        return nodes().stream().anyMatch(other -> other.up() == node);
    }

    boolean isShown(int node) {
        int up = nodes().get(node).up();
        return up < 0 || (opened.contains(up) && isShown(up));
    }
}
