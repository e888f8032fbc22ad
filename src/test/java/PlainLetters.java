import java.util.ArrayList;
import java.util.HashMap;
import java.util.List;
import java.util.Map;

/** Glyphs and rows of letters of the second, plain kit: the document's point 4. */
final class PlainLetters {
    private final Map<Character, Integer> columns = new HashMap<>();
    private final Map<Character, Long> bits = new HashMap<>();

    void tell(int c, int wide, long pixels) {
        columns.put((char) c, wide);
        bits.put((char) c, pixels);
    }

    int columns(char c) {
        return columns.getOrDefault(c, 2 + c % 3);
    }

    boolean isSet(char c, int i, int j) {
        if (bits.containsKey(c)) {
            return (bits.get(c) >> 8 * j + i & 1) == 1;
        }
        return (0x1a95 >> (c * 7 + 5 * i + 11 * j) % 13 & 1) == 1;
    }

    int wide(String text) {
        int sum = 0;
        for (char c : text.toCharArray()) {
            sum += columns(c) + 1;
        }
        return sum;
    }

    static List<String> words(String text) {
        List<String> words = new ArrayList<>(List.of(text.split(" ")));
        words.removeIf(String::isEmpty);
        return words;
    }

    List<String> broken(String text, int limit) {
        List<String> rows = new ArrayList<>();
        for (String word : words(text)) {
            int last = rows.size() - 1;
            if (last >= 0 && wide(rows.get(last) + " " + word) <= limit) {
                rows.set(last, rows.get(last) + " " + word);
            } else {
                rows.add(word);
            }
        }
        return rows;
    }
}
