/**
 * A desk for rows of bytes, in ten registers, with places counted from 1.
 *
 * Every call that makes a row builds it in one row kept for that and copies it into its register
 * at the end: so the register may be one that the call works on, and no call makes an object.
 */
public final class RowDesk {
    public static final int NONE = -1;
    public static final int FULL = -4;

    private static final int TAPE_MOST = 240;
    private static final int ROW_MOST = 200;
    private static final int REGISTERS = 10;
    private static final int WORDS_MOST = 100; // each word but the last needs a blank behind it
    private static final int FED_AT_ONCE = 20;
    private static final int BYTE_VALUES = 256;
    private static final int BLANK = 32;
    private static final int CASE_STEP = 'a' - 'A';

    private final Row tape;
    private final Row[] registers;
    private final Row made;
    private final WordList wordList;
    private final WordList soughtWords;
    private final ByteTable table;
    private int padByte;

    public RowDesk() {
        tape = new Row(TAPE_MOST);
        registers = new Row[REGISTERS];
        for (int r = 0; r < REGISTERS; r++) {
            registers[r] = new Row(ROW_MOST);
        }
        made = new Row(ROW_MOST);
        wordList = new WordList();
        soughtWords = new WordList();
        table = new ByteTable();
        padByte = BLANK;
    }

    public int feed(int a, int b, int c, int d, int e) {
        if (tape.length() + FED_AT_ONCE > TAPE_MOST) {
            return FULL;
        }
        tape.addFourBytes(a);
        tape.addFourBytes(b);
        tape.addFourBytes(c);
        tape.addFourBytes(d);
        tape.addFourBytes(e);
        return tape.length();
    }

    public int end(int n) {
        if (n < 0 || n > tape.length()) {
            return NONE;
        }
        tape.shortenTo(n);
        return n;
    }

    public int put(int r) {
        Row target = register(r);
        if (target == null) {
            return NONE;
        }
        if (tape.length() > ROW_MOST) {
            return FULL;
        }
        target.become(tape);
        tape.shortenTo(0);
        return target.length();
    }

    public int at(int r, int i) {
        Row row = register(r);
        return row == null ? NONE : row.byteOr(i, NONE);
    }

    public int size(int r) {
        Row row = register(r);
        return row == null ? NONE : row.length();
    }

    public int pad(int p) {
        if (p < 0 || p >= BYTE_VALUES) {
            return NONE;
        }
        int before = padByte;
        padByte = p;
        return before;
    }

    public int fill(int way, int a, int n, int to) {
        Row row = register(a);
        Row target = register(to);
        if (row == null || target == null || way < 0 || way > 2 || n < 0) {
            return NONE;
        }
        if (n > ROW_MOST) {
            return FULL;
        }
        // Below 0, it is what is too much: Java's division rounds that half down as well.
        int missing = n - row.length();
        int ahead = way == 0 ? 0 : way == 1 ? missing : missing / 2;
        made.shortenTo(0);
        made.addTimes(padByte, ahead);
        made.addRange(row, -ahead, n - ahead);
        made.lengthenTo(n, padByte);
        return keepMade(target);
    }

    public int part(int a, int k, int n, int to) {
        Row row = register(a);
        Row target = register(to);
        if (row == null || target == null || k < 1 || n < NONE) {
            return NONE;
        }
        if (n > ROW_MOST) {
            return FULL;
        }
        made.shortenTo(0);
        made.addRange(row, k - 1, behindRun(k - 1, n, row.length()));
        made.lengthenTo(n, padByte);
        return keepMade(target);
    }

    public int cut(int a, int k, int n, int to) {
        Row row = register(a);
        Row target = register(to);
        if (row == null || target == null || k < 1 || n < NONE) {
            return NONE;
        }
        made.shortenTo(0);
        made.addRange(row, 0, k - 1);
        made.addRange(row, behindRun(k - 1, n, row.length()), row.length());
        return keepMade(target);
    }

    public int join(int a, int b, int w, int to) {
        Row ahead = register(a);
        Row behind = register(b);
        Row target = register(to);
        if (ahead == null || behind == null || target == null || w < 0) {
            return NONE;
        }
        if ((long) ahead.length() + w + behind.length() > ROW_MOST) {
            return FULL;
        }
        made.shortenTo(0);
        made.addRow(ahead);
        made.addTimes(padByte, w);
        made.addRow(behind);
        return keepMade(target);
    }

    public int copies(int a, int n, int to) {
        Row row = register(a);
        Row target = register(to);
        if (row == null || target == null || n < 0) {
            return NONE;
        }
        long length = (long) row.length() * n;
        if (length > ROW_MOST) {
            return FULL;
        }
        made.shortenTo(0);
        // The length is looked at too, as a row of no bytes may be asked for any number of times.
        for (int i = 0; i < n && made.length() < length; i++) {
            made.addRow(row);
        }
        return keepMade(target);
    }

    public int set(int a, int b, int n, boolean over, int to) {
        Row row = register(a);
        Row ground = register(b);
        Row target = register(to);
        if (row == null || ground == null || target == null || n < 0) {
            return NONE;
        }
        long behindRow = (long) n + row.length();
        long length = over ? Math.max(behindRow, ground.length())
                : (long) Math.max(n, ground.length()) + row.length();
        if (length > ROW_MOST) {
            return FULL;
        }
        made.shortenTo(0);
        made.addRange(ground, 0, n);
        made.lengthenTo(n, padByte);
        made.addRow(row);
        made.addRange(ground, over ? made.length() : n, ground.length());
        return keepMade(target);
    }

    public int find(int a, int b, int k, boolean last) {
        Row sought = register(a);
        Row row = register(b);
        boolean fromEnd = last && k == NONE;
        if (sought == null || row == null || (k < 1 && !fromEnd)) {
            return NONE;
        }
        if (last) {
            return lastPlace(sought, row, fromEnd ? row.length() : Math.min(k, row.length()));
        }
        return firstPlace(sought, row, k);
    }

    public int change(int a, int b, int c, int to) {
        Row old = register(a);
        Row row = register(b);
        Row young = register(c);
        Row target = register(to);
        if (old == null || row == null || young == null || target == null) {
            return NONE;
        }
        if (row.length() + countOf(old, row) * (young.length() - old.length()) > ROW_MOST) {
            return FULL;
        }
        makeChanged(old, row, young);
        return keepMade(target);
    }

    public int often(int a, int b) {
        Row sought = register(a);
        Row row = register(b);
        return sought == null || row == null ? NONE : countOf(sought, row);
    }

    public int unlike(int a, int b) {
        Row one = register(a);
        Row other = register(b);
        if (one == null || other == null) {
            return NONE;
        }
        int length = Math.max(one.length(), other.length());
        for (int i = 0; i < length; i++) {
            if (one.byteOr(i, padByte) != other.byteOr(i, padByte)) {
                return i + 1;
            }
        }
        return 0;
    }

    public int strip(int a, int ends, int to) {
        Row row = register(a);
        Row target = register(to);
        if (row == null || target == null || ends < 0 || ends > 2) {
            return NONE;
        }
        int start = 0;
        int stop = row.length();
        while (ends != 2 && start < stop && row.byteOr(start, NONE) == padByte) {
            start++;
        }
        while (ends != 1 && stop > start && row.byteOr(stop - 1, NONE) == padByte) {
            stop--;
        }
        made.shortenTo(0);
        made.addRange(row, start, stop);
        return keepMade(target);
    }

    public int turn(int how, int a, int to) {
        Row row = register(a);
        Row target = register(to);
        if (row == null || target == null || how < 0 || how > 4) {
            return NONE;
        }
        made.shortenTo(0);
        switch (how) {
            case 0:
                makeTurnedAbout(row);
                break;
            case 1:
                makeWithLettersMoved(row, 'a', -CASE_STEP);
                break;
            case 2:
                makeWithLettersMoved(row, 'A', CASE_STEP);
                break;
            case 3:
                makeInOrder(row);
                break;
            default:
                makeEachOnce(row);
                break;
        }
        return keepMade(target);
    }

    public int translate(int a, int b, int c, int to) {
        Row row = register(a);
        Row becoming = register(b);
        Row turned = register(c);
        Row target = register(to);
        if (row == null || becoming == null || turned == null || target == null) {
            return NONE;
        }
        table.setAll(NONE);
        // From the end, so that a byte's first place is noted last and counts.
        for (int i = turned.length() - 1; i >= 0; i--) {
            table.note(turned.byteOr(i, NONE), becoming.byteOr(i, padByte));
        }
        made.shortenTo(0);
        for (int i = 0; i < row.length(); i++) {
            int before = row.byteOr(i, NONE);
            int after = table.noted(before);
            made.add(after == NONE ? before : after);
        }
        return keepMade(target);
    }

    public int verify(int a, int b, int k, boolean other) {
        Row row = register(a);
        Row known = register(b);
        if (row == null || known == null || k < 1) {
            return NONE;
        }
        table.setAll(0);
        for (int i = 0; i < known.length(); i++) {
            table.note(known.byteOr(i, NONE), 1);
        }
        int wanted = other ? 0 : 1;
        for (int i = k - 1; i < row.length(); i++) {
            if (table.noted(row.byteOr(i, NONE)) == wanted) {
                return i + 1;
            }
        }
        return 0;
    }

    public int space(int a, int n, int to) {
        Row row = register(a);
        Row target = register(to);
        if (row == null || target == null || n < 0) {
            return NONE;
        }
        wordList.read(row);
        long gaps = Math.max(wordList.count() - 1, 0);
        if (wordList.bytesInWords() + gaps * n > ROW_MOST) {
            return FULL;
        }
        made.shortenTo(0);
        for (int i = 0; i < wordList.count(); i++) {
            if (i > 0) {
                made.addTimes(padByte, n);
            }
            made.addRange(row, wordList.startOf(i), wordList.stopOf(i));
        }
        return keepMade(target);
    }

    public int words(int a) {
        Row row = register(a);
        if (row == null) {
            return NONE;
        }
        wordList.read(row);
        return wordList.count();
    }

    public int word(int a, int k, int what) {
        Row row = register(a);
        if (row == null || k < 1 || what < 0 || what > 1) {
            return NONE;
        }
        wordList.read(row);
        if (k > wordList.count()) {
            return 0;
        }
        return what == 0 ? wordList.startOf(k - 1) + 1 : wordList.lengthOf(k - 1);
    }

    public int some(int a, int k, int n, boolean without, int to) {
        Row row = register(a);
        Row target = register(to);
        if (row == null || target == null || k < 1 || n < NONE) {
            return NONE;
        }
        wordList.read(row);
        int first = Math.min(k - 1, wordList.count());
        int behind = behindRun(first, n, wordList.count());
        made.shortenTo(0);
        if (without) {
            made.addRange(row, 0, wordList.startOf(first));
            made.addRange(row, wordList.startOf(behind), row.length());
        } else if (first < behind) {
            made.addRange(row, wordList.startOf(first), wordList.stopOf(behind - 1));
        }
        return keepMade(target);
    }

    public int order(int a, int how, int to) {
        Row row = register(a);
        Row target = register(to);
        if (row == null || target == null || how < 0 || how > 1) {
            return NONE;
        }
        wordList.read(row);
        if (how == 0) {
            wordList.rankLastFirst();
        } else {
            wordList.rankByBytes(row);
        }
        makeRanked(row);
        return keepMade(target);
    }

    public int place(int a, int b, int k) {
        Row sought = register(a);
        Row row = register(b);
        if (sought == null || row == null || k < 1) {
            return NONE;
        }
        soughtWords.read(sought);
        wordList.read(row);
        if (soughtWords.count() == 0) {
            return 0;
        }
        for (int i = k - 1; i <= wordList.count() - soughtWords.count(); i++) {
            if (soughtWordsStandAt(i, sought, row)) {
                return i + 1;
            }
        }
        return 0;
    }

    private Row register(int r) {
        return r < 0 || r >= REGISTERS ? null : registers[r];
    }

    private int keepMade(Row target) {
        target.become(made);
        return target.length();
    }

    /** The index behind n ones from start on, at most all; all if n is NONE. */
    private static int behindRun(int start, int n, int all) {
        return n == NONE ? all : (int) Math.min((long) start + n, all);
    }

    private static int firstPlace(Row sought, Row row, int k) {
        for (int i = k - 1; i < row.length(); i++) {
            if (row.hasAt(i, sought)) {
                return i + 1;
            }
        }
        return 0;
    }

    private static int lastPlace(Row sought, Row row, int lastEnd) {
        for (int i = lastEnd - sought.length(); i >= 0; i--) {
            if (row.hasAt(i, sought)) {
                return i + 1;
            }
        }
        return 0;
    }

    private static int countOf(Row sought, Row row) {
        int count = 0;
        int behind = 0;
        for (int i = 0; i < row.length(); i++) {
            if (i >= behind && row.hasAt(i, sought)) {
                count++;
                behind = i + sought.length();
            }
        }
        return count;
    }

    private void makeChanged(Row old, Row row, Row young) {
        made.shortenTo(0);
        int behind = 0;
        for (int i = 0; i < row.length(); i++) {
            if (i < behind) {
                continue;
            }
            if (row.hasAt(i, old)) {
                made.addRow(young);
                behind = i + old.length();
            } else {
                made.add(row.byteOr(i, NONE));
            }
        }
    }

    private void makeTurnedAbout(Row row) {
        for (int i = row.length() - 1; i >= 0; i--) {
            made.add(row.byteOr(i, NONE));
        }
    }

    private void makeWithLettersMoved(Row row, int firstLetter, int step) {
        for (int i = 0; i < row.length(); i++) {
            int b = row.byteOr(i, NONE);
            boolean isLetter = b >= firstLetter && b <= firstLetter + ('z' - 'a');
            made.add(isLetter ? b + step : b);
        }
    }

    private void makeInOrder(Row row) {
        table.setAll(0);
        for (int i = 0; i < row.length(); i++) {
            int b = row.byteOr(i, NONE);
            table.note(b, table.noted(b) + 1);
        }
        for (int b = 0; b < BYTE_VALUES; b++) {
            made.addTimes(b, table.noted(b));
        }
    }

    private void makeEachOnce(Row row) {
        table.setAll(0);
        for (int i = 0; i < row.length(); i++) {
            int b = row.byteOr(i, NONE);
            if (table.noted(b) == 0) {
                table.note(b, 1);
                made.add(b);
            }
        }
    }

    private void makeRanked(Row row) {
        made.shortenTo(0);
        int done = 0;
        for (int i = 0; i < wordList.count(); i++) {
            int chosen = wordList.rankedAt(i);
            made.addRange(row, done, wordList.startOf(i));
            made.addRange(row, wordList.startOf(chosen), wordList.stopOf(chosen));
            done = wordList.stopOf(i);
        }
        made.addRange(row, done, row.length());
    }

    private boolean soughtWordsStandAt(int first, Row sought, Row row) {
        for (int i = 0; i < soughtWords.count(); i++) {
            int length = soughtWords.lengthOf(i);
            if (wordList.lengthOf(first + i) != length) {
                return false;
            }
            if (!row.hasRangeAt(wordList.startOf(first + i), sought, soughtWords.startOf(i), length)) {
                return false;
            }
        }
        return true;
    }

    /** A row of bytes, each held as 0 .. 255; what would go beyond its room is left out. */
    private static final class Row {
        private final int[] bytes;
        private int length;

        Row(int most) {
            bytes = new int[Math.max(most, 0)];
            length = 0;
        }

        int length() {
            return length;
        }

        int byteOr(int i, int other) {
            return i >= 0 && i < length ? bytes[i] : other;
        }

        void add(int b) {
            if (length < bytes.length) {
                bytes[length] = b;
                length++;
            }
        }

        void addFourBytes(int four) {
            for (int shift = 24; shift >= 0; shift -= 8) {
                add((four >> shift) & (BYTE_VALUES - 1));
            }
        }

        void addTimes(int b, int times) {
            for (int i = 0; i < times; i++) {
                add(b);
            }
        }

        /** Adds those bytes of from that stand at start or behind it, and ahead of stop. */
        void addRange(Row from, int start, int stop) {
            int end = Math.min(stop, from.length);
            for (int i = Math.max(start, 0); i < end; i++) {
                add(from.bytes[i]);
            }
        }

        void addRow(Row from) {
            addRange(from, 0, from.length);
        }

        void become(Row from) {
            length = 0;
            addRow(from);
        }

        void shortenTo(int n) {
            if (n >= 0 && n < length) {
                length = n;
            }
        }

        void lengthenTo(int n, int b) {
            addTimes(b, n - length);
        }

        /** Whether sought stands at i; one of no bytes stands nowhere. */
        boolean hasAt(int i, Row sought) {
            return sought.length > 0 && hasRangeAt(i, sought, 0, sought.length);
        }

        boolean hasRangeAt(int i, Row sought, int start, int n) {
            if (i < 0 || n > length - i) {
                return false;
            }
            for (int j = 0; j < n; j++) {
                if (byteOr(i + j, NONE) != sought.byteOr(start + j, NONE)) {
                    return false;
                }
            }
            return true;
        }
    }

    /** Where the words of the row last read begin and end; words are numbered from 0 here. */
    private static final class WordList {
        private final int[] starts;
        private final int[] stops;
        private final int[] ranked;
        private int count;
        private int rowLength;

        WordList() {
            starts = new int[WORDS_MOST];
            stops = new int[WORDS_MOST];
            ranked = new int[WORDS_MOST];
            count = 0;
            rowLength = 0;
        }

        void read(Row row) {
            count = 0;
            rowLength = row.length();
            int start = NONE;
            for (int i = 0; i <= rowLength; i++) {
                boolean inWord = row.byteOr(i, BLANK) != BLANK;
                if (inWord && start == NONE) {
                    start = i;
                } else if (!inWord && start != NONE) {
                    addWord(start, i);
                    start = NONE;
                }
            }
        }

        private void addWord(int start, int stop) {
            if (count < WORDS_MOST) {
                starts[count] = start;
                stops[count] = stop;
                count++;
            }
        }

        int count() {
            return count;
        }

        /** The row's end if there is no such word: all that stands ahead of none is the row. */
        int startOf(int i) {
            return i >= 0 && i < count ? starts[i] : rowLength;
        }

        int stopOf(int i) {
            return i >= 0 && i < count ? stops[i] : rowLength;
        }

        int lengthOf(int i) {
            return stopOf(i) - startOf(i);
        }

        int bytesInWords() {
            int sum = 0;
            for (int i = 0; i < count; i++) {
                sum += lengthOf(i);
            }
            return sum;
        }

        int rankedAt(int i) {
            return i >= 0 && i < count ? ranked[i] : i;
        }

        void rankLastFirst() {
            for (int i = 0; i < count; i++) {
                ranked[i] = count - 1 - i;
            }
        }

        void rankByBytes(Row row) {
            for (int i = 0; i < count; i++) {
                int j = i;
                while (j > 0 && compareWords(row, i, ranked[j - 1]) < 0) {
                    ranked[j] = ranked[j - 1];
                    j--;
                }
                ranked[j] = i;
            }
        }

        private int compareWords(Row row, int v, int w) {
            int common = Math.min(lengthOf(v), lengthOf(w));
            for (int i = 0; i < common; i++) {
                int difference = row.byteOr(startOf(v) + i, 0) - row.byteOr(startOf(w) + i, 0);
                if (difference != 0) {
                    return difference;
                }
            }
            return lengthOf(v) - lengthOf(w);
        }
    }

    /** A number for each value that a byte can have. */
    private static final class ByteTable {
        private final int[] numbers;

        ByteTable() {
            numbers = new int[BYTE_VALUES];
        }

        void setAll(int number) {
            for (int b = 0; b < BYTE_VALUES; b++) {
                numbers[b] = number;
            }
        }

        void note(int b, int number) {
            if (b >= 0 && b < BYTE_VALUES) {
                numbers[b] = number;
            }
        }

        int noted(int b) {
            return b >= 0 && b < BYTE_VALUES ? numbers[b] : NONE;
        }
    }
}
