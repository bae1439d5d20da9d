import java.util.ArrayList;
import java.util.List;

/** Texts in which brackets stand for one thing after the other: make(0, [1 5..7]) stands for four calls. */
final class Brackets {
    private Brackets() {
    }

    /** All that the text stands for; of several brackets the last one goes round first. */
    static List<String> expand(String text) {
        List<String> all = new ArrayList<>();
        int open = text.indexOf('[');
        if (open < 0) {
            all.add(text);
            return all;
        }
        int close = text.indexOf(']', open);
        for (String item : items(text.substring(open + 1, close))) {
            for (String rest : expand(text.substring(close + 1))) {
                all.add(text.substring(0, open) + item + rest);
            }
        }
        return all;
    }

    /** The items of a row such as: 1 5..7 'a'. */
    static List<String> items(String row) {
        List<String> items = new ArrayList<>();
        for (String item : row.trim().split("\\s+")) {
            int dots = item.indexOf("..");
            if (dots < 0) {
                items.add(item);
                continue;
            }
            int last = Integer.parseInt(item.substring(dots + 2));
            for (int i = Integer.parseInt(item.substring(0, dots)); i <= last; i++) {
                items.add(String.valueOf(i));
            }
        }
        return items;
    }
}
