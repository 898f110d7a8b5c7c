import java.util.ArrayList;
import java.util.List;
import java.util.regex.Matcher;
import java.util.regex.Pattern;

/** View texts as the model reads them: by a pattern, and range by range as lists of places. */
final class ModelText {
    private static final String NUMBER = "-?[0-9]{1,9}";
    private static final String ITEM = "(\\*|" + NUMBER + "|(" + NUMBER + ")? *: *(" + NUMBER + ")?( *: *(" + NUMBER + ")?)?)";
    private static final Pattern TEXT = Pattern.compile("( *| *" + ITEM + " *(, *" + ITEM + " *)*)", Pattern.DOTALL);

    private ModelText() {
    }

    static int fault(String text, List<Integer> sizes) {
        int alien = firstAlien(text);
        return alien >= 0 ? alien : itemFault(text, sizes);
    }

    /** The first byte with which no text can begin so, or the length if the text could go on but not end. */
    private static int firstAlien(String text) {
        for (int length = 1; length <= text.length(); length++) {
            Matcher begin = TEXT.matcher(text.substring(0, length));
            if (!begin.matches() && !begin.hitEnd()) {
                return length - 1;
            }
        }
        return TEXT.matcher(text).matches() ? -1 : text.length();
    }

    private static int itemFault(String text, List<Integer> sizes) {
        int axis = 0;
        int begin = 0;
        for (String piece : items(text)) {
            int place = begin + piece.length() - piece.stripLeading().length();
            String item = piece.replace(" ", "");
            if (!item.equals("*")) {
                if (axis >= sizes.size() || isBad(item, sizes.get(axis))) {
                    return place;
                }
                axis++;
            }
            begin += piece.length() + 1;
        }
        return newSizes(text, sizes).size() > 4 ? text.length() : -1;
    }

    private static boolean isBad(String item, int size) {
        if (!item.contains(":")) {
            int place = Integer.parseInt(item);
            return place < -size || place > size - 1;
        }
        String[] parts = item.split(":", -1);
        return parts.length == 3 && !parts[2].isEmpty() && Integer.parseInt(parts[2]) == 0;
    }

    private static List<String> items(String text) {
        return text.isBlank() ? List.of() : List.of(text.split(",", -1));
    }

    /** For every axis of the grid the places that the view takes of it. */
    static List<List<Integer>> choices(String text, List<Integer> sizes) {
        List<List<Integer>> out = new ArrayList<>();
        for (String piece : items(text)) {
            String item = piece.replace(" ", "");
            if (!item.equals("*")) {
                out.add(chosen(item, sizes.get(out.size())));
            }
        }
        while (out.size() < sizes.size()) {
            out.add(chosen(":", sizes.get(out.size())));
        }
        return out;
    }

    static List<Integer> newSizes(String text, List<Integer> sizes) {
        List<Integer> out = new ArrayList<>();
        int axis = 0;
        for (String piece : items(text)) {
            String item = piece.replace(" ", "");
            if (item.equals("*")) {
                out.add(1);
            } else {
                if (item.contains(":")) {
                    out.add(chosen(item, sizes.get(axis)).size());
                }
                axis++;
            }
        }
        out.addAll(sizes.subList(axis, sizes.size()));
        return out;
    }

    private static List<Integer> chosen(String item, int n) {
        if (!item.contains(":")) {
            return List.of(Math.floorMod(Integer.parseInt(item), n));
        }
        String[] parts = item.split(":", -1);
        int step = parts.length < 3 || parts[2].isEmpty() ? 1 : Integer.parseInt(parts[2]);
        List<Integer> out = new ArrayList<>();
        if (step > 0) {
            int to = told(parts[1], n, n, 0, n);
            for (long i = told(parts[0], n, 0, 0, n); i < to; i += step) {
                out.add((int) i);
            }
        } else {
            int to = told(parts[1], n, -1, -1, n - 1);
            for (long i = told(parts[0], n, n - 1, -1, n - 1); i > to; i += step) {
                out.add((int) i);
            }
        }
        return out;
    }

    private static int told(String part, int n, int leftOut, int low, int high) {
        if (part.isEmpty()) {
            return leftOut;
        }
        int value = Integer.parseInt(part);
        return Math.max(low, Math.min(high, value < 0 ? value + n : value));
    }
}
