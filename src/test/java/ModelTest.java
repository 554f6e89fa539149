import java.util.Random;

/** Promises 1 to 27: long runs of calls, drawn by fixed seeds, answered as Model answers them. */
public final class ModelTest {
    private static final int RUNS = 6000;
    private static final int MOST_CALLS = 512;
    private static final int MOST_TO_READ_ALL = 240;
    private static final String[] LETTERS = {"ab", "ab ", "aAzZ -", "a  ", "\0\177\200\377 @[`{"};
    private static final String[] NAMES = {"feed", "end", "put", "at", "size", "pad", "fill", "part",
        "cut", "join", "copies", "set", "find", "change", "often", "unlike", "strip", "turn",
        "translate", "verify", "space", "words", "word", "some", "order", "place"};

    private final Random random;
    private final RowDesk desk = new RowDesk();
    private final Model model = new Model();
    private final String letters;
    private final int seed;
    private int calls = 0;

    private ModelTest(int seed) {
        this.seed = seed;
        random = new Random(seed);
        letters = LETTERS[seed % LETTERS.length];
    }

    public static void main(String[] args) {
        for (int seed = 0; seed < RUNS; seed++) {
            new ModelTest(seed).run();
        }
        Bench.close();
    }

    private void run() {
        for (int r = 0; r < 4; r++) {
            feedRow(random.nextInt(12) == 0 ? 200 : random.nextInt(18));
            call(2, r);
        }
        while (calls + 30 < MOST_CALLS / 2) {
            int name = random.nextInt(NAMES.length);
            if (name == 0) {
                feedRow(random.nextInt(60));
            } else {
                call(name, register());
            }
        }
        readAll();
    }

    private void feedRow(int length) {
        int before = model.tape.length();
        for (int done = 0; done < length; done += 20) {
            int[] fed = {four(), four(), four(), four(), four()};
            due("feed", desk.feed(fed[0], fed[1], fed[2], fed[3], fed[4]), model.feed(fed));
        }
        due("end", desk.end(before + length), model.end(before + length));
    }

    private int four() {
        int value = 0;
        for (int i = 0; i < 4; i++) {
            value = value << 8 | letters.charAt(random.nextInt(letters.length()));
        }
        return value;
    }

    /** Few registers are used often, so that calls meet what other calls made. */
    private int register() {
        int kind = random.nextInt(30);
        return kind == 0 ? -1 + 11 * random.nextInt(2) : random.nextInt(kind < 4 ? 10 : 6);
    }

    private int number() {
        int[] odd = {-2, 99, 100, 199, 200, 201, Integer.MIN_VALUE, Integer.MIN_VALUE + 1,
            Integer.MAX_VALUE, Integer.MAX_VALUE - 1, 1 << 30, 1 << 29, 0x55555556, 1 << 24, 256, 255};
        return random.nextInt(12) == 0 ? odd[random.nextInt(odd.length)] : random.nextInt(14) - 1;
    }

    private int choice(int most) {
        return random.nextInt(25) == 0 ? -1 + (most + 2) * random.nextInt(2) : random.nextInt(most + 1);
    }

    private void call(int name, int a) {
        int b = register();
        int c = register();
        int to = register();
        int k = number();
        int n = number();
        boolean flag = random.nextBoolean();
        String shown = NAMES[name] + " a " + a + " b " + b + " c " + c + " to " + to + " k " + k + " n " + n
                + " " + flag;
        switch (name) {
            case 1 -> due(shown, desk.end(n), model.end(n));
            case 2 -> due(shown, desk.put(a), model.put(a));
            case 3 -> due(shown, desk.at(a, n), model.at(a, n));
            case 4 -> due(shown, desk.size(a), model.size(a));
            case 5 -> changePad(shown);
            case 6 -> fill(shown, a, n, to);
            case 7 -> due(shown, desk.part(a, k, n, to), model.part(a, k, n, to));
            case 8 -> due(shown, desk.cut(a, k, n, to), model.cut(a, k, n, to));
            case 9 -> due(shown, desk.join(a, b, n, to), model.join(a, b, n, to));
            case 10 -> due(shown, desk.copies(a, n, to), model.copies(a, n, to));
            case 11 -> due(shown, desk.set(a, b, n, flag, to), model.set(a, b, n, flag, to));
            case 12 -> due(shown, desk.find(a, b, k, flag), model.find(a, b, k, flag));
            case 13 -> due(shown, desk.change(a, b, c, to), model.change(a, b, c, to));
            case 14 -> due(shown, desk.often(a, b), model.often(a, b));
            case 15 -> due(shown, desk.unlike(a, b), model.unlike(a, b));
            default -> callFurther(name, shown, new int[] {a, b, c, to, k, n}, flag);
        }
        readRow(shown, to);
    }

    private void callFurther(int name, String shown, int[] v, boolean flag) {
        int a = v[0];
        int b = v[1];
        int to = v[3];
        int k = v[4];
        int n = v[5];
        int of2 = choice(1);
        int of3 = choice(2);
        int of5 = choice(4);
        String more = shown + " choices " + of2 + " " + of3 + " " + of5;
        switch (name) {
            case 16 -> due(more, desk.strip(a, of3, to), model.strip(a, of3, to));
            case 17 -> due(more, desk.turn(of5, a, to), model.turn(of5, a, to));
            case 18 -> due(more, desk.translate(a, b, v[2], to), model.translate(a, b, v[2], to));
            case 19 -> due(more, desk.verify(a, b, k, flag), model.verify(a, b, k, flag));
            case 20 -> due(more, desk.space(a, n, to), model.space(a, n, to));
            case 21 -> due(more, desk.words(a), model.words(a));
            case 22 -> due(more, desk.word(a, k, of2), model.word(a, k, of2));
            case 23 -> due(more, desk.some(a, k, n, flag, to), model.some(a, k, n, flag, to));
            case 24 -> due(more, desk.order(a, of2, to), model.order(a, of2, to));
            default -> due(more, desk.place(a, b, k), model.place(a, b, k));
        }
    }

    private void changePad(String shown) {
        int p = random.nextInt(4) == 0 ? number() : letters.charAt(random.nextInt(letters.length()));
        due(shown + " p " + p, desk.pad(p), model.pad(p));
    }

    private void fill(String shown, int a, int n, int to) {
        int way = choice(2);
        due(shown + " way " + way, desk.fill(way, a, n, to), model.fill(way, a, n, to));
    }

    /** The size of the row and one of its bytes: what else is wrong with it shows at the run's end. */
    private void readRow(String shown, int r) {
        int size = model.size(r);
        due("size after " + shown, desk.size(r), size);
        if (size > 0) {
            int i = random.nextInt(size);
            due("at " + i + " after " + shown, desk.at(r, i), model.at(r, i));
        }
    }

    private void readAll() {
        for (int r = 0; r < 10; r++) {
            due("size " + r, desk.size(r), model.size(r));
            for (int i = 0; i < model.size(r) && calls < MOST_TO_READ_ALL + MOST_CALLS / 2; i++) {
                due("at " + r + ", " + i, desk.at(r, i), model.at(r, i));
            }
        }
        due("end of the tape", desk.end(model.tape.length() + 1), -1);
        due("end of the tape", desk.end(model.tape.length()), model.tape.length());
        due("pad", desk.pad(0), model.pad);
    }

    private void due(String call, int got, int want) {
        calls++;
        Bench.due("seed " + seed + ", call " + calls + ": " + call, got, want);
    }
}
