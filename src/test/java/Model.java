import java.util.ArrayList;
import java.util.Arrays;
import java.util.Collections;
import java.util.List;
import java.util.regex.Matcher;
import java.util.regex.Pattern;

/**
 * The document written a second time, over Strings and the Java library, as far from RowDesk's own
 * way as can be, so that a slip in one of them shows as a difference.
 */
final class Model {
    private static final int NONE = -1;
    private static final int FULL = -4;

    String tape = "";
    char pad = ' ';
    final String[] rows = new String[10];

    Model() {
        Arrays.fill(rows, "");
    }

    int feed(int... ints) {
        if (tape.length() > 220) {
            return FULL;
        }
        StringBuilder fed = new StringBuilder(tape);
        for (int value : ints) {
            fed.append((char) (value >>> 24)).append((char) (value >>> 16 & 255));
            fed.append((char) (value >>> 8 & 255)).append((char) (value & 255));
        }
        tape = fed.toString();
        return tape.length();
    }

    int end(int n) {
        if (n < 0 || n > tape.length()) {
            return NONE;
        }
        tape = tape.substring(0, n);
        return n;
    }

    int put(int r) {
        if (none(r)) {
            return NONE;
        }
        int answer = keep(r, tape);
        if (answer != FULL) {
            tape = "";
        }
        return answer;
    }

    int at(int r, int i) {
        return none(r) || i < 0 || i >= rows[r].length() ? NONE : rows[r].charAt(i);
    }

    int size(int r) {
        return none(r) ? NONE : rows[r].length();
    }

    int pad(int p) {
        if (p < 0 || p > 255) {
            return NONE;
        }
        int was = pad;
        pad = (char) p;
        return was;
    }

    int fill(int way, int a, int n, int to) {
        if (none(a, to) || way < 0 || way > 2 || n < 0) {
            return NONE;
        }
        if (n > 200) {
            return FULL;
        }
        StringBuilder row = new StringBuilder(rows[a]);
        int change = Math.abs(n - row.length());
        int ahead = way == 0 ? 0 : way == 1 ? change : change / 2;
        if (n > row.length()) {
            row.insert(0, pads(ahead)).append(pads(change - ahead));
        } else {
            row.delete(0, ahead).setLength(n);
        }
        return keep(to, row.toString());
    }

    int part(int a, int k, int n, int to) {
        if (none(a, to) || k < 1 || n < NONE) {
            return NONE;
        }
        String behind = k > rows[a].length() ? "" : rows[a].substring(k - 1);
        if (n == NONE) {
            return keep(to, behind);
        }
        return n > 200 ? FULL : keep(to, (behind + pads(n)).substring(0, n));
    }

    int cut(int a, int k, int n, int to) {
        if (none(a, to) || k < 1 || n < NONE) {
            return NONE;
        }
        StringBuilder kept = new StringBuilder();
        for (int place = 1; place <= rows[a].length(); place++) {
            if (place < k || n != NONE && place - k >= n) {
                kept.append(rows[a].charAt(place - 1));
            }
        }
        return keep(to, kept.toString());
    }

    int join(int a, int b, int w, int to) {
        if (none(a, b, to) || w < 0) {
            return NONE;
        }
        return w > 200 ? FULL : keep(to, rows[a] + pads(w) + rows[b]);
    }

    int copies(int a, int n, int to) {
        if (none(a, to) || n < 0) {
            return NONE;
        }
        if (rows[a].isEmpty()) {
            return keep(to, "");
        }
        return n > 200 ? FULL : keep(to, rows[a].repeat(n));
    }

    int set(int a, int b, int n, boolean over, int to) {
        if (none(a, b, to) || n < 0) {
            return NONE;
        }
        if (n > 200) {
            return FULL;
        }
        StringBuilder ground = new StringBuilder(rows[b]);
        ground.append(pads(Math.max(0, n - ground.length())));
        if (over) {
            ground.replace(n, Math.min(ground.length(), n + rows[a].length()), rows[a]);
        } else {
            ground.insert(n, rows[a]);
        }
        return keep(to, ground.toString());
    }

    int find(int a, int b, int k, boolean last) {
        if (none(a, b) || k < 1 && !(last && k == NONE)) {
            return NONE;
        }
        if (rows[a].isEmpty()) {
            return 0;
        }
        if (!last) {
            return rows[b].indexOf(rows[a], k - 1) + 1;
        }
        String searched = k == NONE || k > rows[b].length() ? rows[b] : rows[b].substring(0, k);
        return searched.lastIndexOf(rows[a]) + 1;
    }

    int change(int a, int b, int c, int to) {
        if (none(a, b, c, to)) {
            return NONE;
        }
        return keep(to, rows[a].isEmpty() ? rows[b] : rows[b].replace(rows[a], rows[c]));
    }

    int often(int a, int b) {
        if (none(a, b)) {
            return NONE;
        }
        if (rows[a].isEmpty()) {
            return 0;
        }
        Matcher matcher = Pattern.compile(Pattern.quote(rows[a])).matcher(rows[b]);
        int count = 0;
        while (matcher.find()) {
            count++;
        }
        return count;
    }

    int unlike(int a, int b) {
        if (none(a, b)) {
            return NONE;
        }
        String one = rows[a] + pads(201 - rows[a].length());
        String other = rows[b] + pads(201 - rows[b].length());
        return Arrays.mismatch(one.toCharArray(), other.toCharArray()) + 1;
    }

    int strip(int a, int ends, int to) {
        if (none(a, to) || ends < 0 || ends > 2) {
            return NONE;
        }
        StringBuilder row = new StringBuilder(rows[a]);
        while (ends != 1 && row.length() > 0 && row.charAt(row.length() - 1) == pad) {
            row.deleteCharAt(row.length() - 1);
        }
        while (ends != 2 && row.length() > 0 && row.charAt(0) == pad) {
            row.deleteCharAt(0);
        }
        return keep(to, row.toString());
    }

    int turn(int how, int a, int to) {
        if (none(a, to) || how < 0 || how > 4) {
            return NONE;
        }
        String row = rows[a];
        if (how == 0) {
            return keep(to, new StringBuilder(row).reverse().toString());
        }
        if (how == 3) {
            char[] bytes = row.toCharArray();
            Arrays.sort(bytes);
            return keep(to, new String(bytes));
        }
        String small = "abcdefghijklmnopqrstuvwxyz";
        String capital = "ABCDEFGHIJKLMNOPQRSTUVWXYZ";
        StringBuilder turned = new StringBuilder();
        for (char c : row.toCharArray()) {
            if (how == 1) {
                turned.append(small.indexOf(c) < 0 ? c : capital.charAt(small.indexOf(c)));
            } else if (how == 2) {
                turned.append(capital.indexOf(c) < 0 ? c : small.charAt(capital.indexOf(c)));
            } else if (turned.indexOf(String.valueOf(c)) < 0) {
                turned.append(c);
            }
        }
        return keep(to, turned.toString());
    }

    int translate(int a, int b, int c, int to) {
        if (none(a, b, c, to)) {
            return NONE;
        }
        StringBuilder turned = new StringBuilder();
        for (char one : rows[a].toCharArray()) {
            int where = rows[c].indexOf(one);
            turned.append(where < 0 ? one : where < rows[b].length() ? rows[b].charAt(where) : pad);
        }
        return keep(to, turned.toString());
    }

    int verify(int a, int b, int k, boolean other) {
        if (none(a, b) || k < 1) {
            return NONE;
        }
        for (int place = 1; place <= rows[a].length(); place++) {
            if (place >= k && rows[b].indexOf(rows[a].charAt(place - 1)) >= 0 != other) {
                return place;
            }
        }
        return 0;
    }

    int space(int a, int n, int to) {
        if (none(a, to) || n < 0) {
            return NONE;
        }
        return keep(to, String.join(pads(Math.min(n, 201)), wordsOf(a)));
    }

    int words(int a) {
        return none(a) ? NONE : wordsOf(a).size();
    }

    int word(int a, int k, int what) {
        if (none(a) || k < 1 || what < 0 || what > 1) {
            return NONE;
        }
        Matcher matcher = wordMatcher(a);
        for (int i = 1; matcher.find(); i++) {
            if (i == k) {
                return what == 0 ? matcher.start() + 1 : matcher.end() - matcher.start();
            }
        }
        return 0;
    }

    int some(int a, int k, int n, boolean without, int to) {
        if (none(a, to) || k < 1 || n < NONE) {
            return NONE;
        }
        StringBuilder chosen = new StringBuilder();
        StringBuilder left = new StringBuilder();
        // Pieces: the blanks ahead of all words, then each word with the blanks behind it.
        Matcher pieces = Pattern.compile("^ +|[^ ]+ *", Pattern.DOTALL).matcher(rows[a]);
        int number = 0;
        while (pieces.find()) {
            boolean isWord = pieces.group().charAt(0) != ' ';
            number += isWord ? 1 : 0;
            boolean isChosen = isWord && number >= k && (n == NONE || number - k < n);
            (isChosen ? chosen : left).append(pieces.group());
        }
        return keep(to, without ? left.toString() : chosen.toString().replaceAll(" +\\z", ""));
    }

    int order(int a, int how, int to) {
        if (none(a, to) || how < 0 || how > 1) {
            return NONE;
        }
        List<String> words = wordsOf(a);
        if (how == 0) {
            Collections.reverse(words);
        } else {
            Collections.sort(words);
        }
        StringBuilder ordered = new StringBuilder();
        Matcher matcher = wordMatcher(a);
        for (int i = 0; matcher.find(); i++) {
            matcher.appendReplacement(ordered, Matcher.quoteReplacement(words.get(i)));
        }
        matcher.appendTail(ordered);
        return keep(to, ordered.toString());
    }

    int place(int a, int b, int k) {
        if (none(a, b) || k < 1) {
            return NONE;
        }
        List<String> sought = wordsOf(a);
        List<String> words = wordsOf(b);
        if (sought.isEmpty() || k > words.size()) {
            return 0;
        }
        int found = Collections.indexOfSubList(words.subList(k - 1, words.size()), sought);
        return found < 0 ? 0 : found + k;
    }

    private List<String> wordsOf(int a) {
        List<String> words = new ArrayList<>();
        for (String piece : rows[a].split(" ")) {
            if (!piece.isEmpty()) {
                words.add(piece);
            }
        }
        return words;
    }

    private Matcher wordMatcher(int a) {
        return Pattern.compile("[^ ]+", Pattern.DOTALL).matcher(rows[a]);
    }

    private int keep(int to, String row) {
        if (row.length() > 200) {
            return FULL;
        }
        rows[to] = row;
        return row.length();
    }

    private String pads(int n) {
        return String.valueOf(pad).repeat(n);
    }

    private static boolean none(int... registers) {
        for (int r : registers) {
            if (r < 0 || r > 9) {
                return true;
            }
        }
        return false;
    }
}
