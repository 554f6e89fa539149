import java.util.ArrayList;
import java.util.List;
import java.util.Random;

/**
 * Promises 1 to 27: runs of calls up to the 512th, drawn by fixed seeds, answered as Model answers
 * them. Once in each run all that the desk has is read, each register, the tape and the pad on a desk
 * of its own that has had the same calls, as reading takes a call a byte.
 */
public final class ModelTest {
    private static final int RUNS = 4000;
    private static final int MOST_CALLS = 512;
    private static final int ROW_MOST = 200;
    private static final int MOST_BEFORE_READING = MOST_CALLS - ROW_MOST - 10;
    private static final int MOST_FED_AT_ONCE = 60;
    private static final int MOST_WRONG_RUNS = 20;
    private static final String[] LETTERS = {"ab", "ab ", "aAzZ -", "a  ", "\0\177\200\377 @[`{"};
    private static final String[] NAMES = {"feed", "end", "put", "at", "size", "pad", "fill", "part",
        "cut", "join", "copies", "set", "find", "change", "often", "unlike", "strip", "turn",
        "translate", "verify", "space", "words", "word", "some", "order", "place"};

    private final Random random;
    private final RowDesk desk = new RowDesk();
    private final Model model = new Model();
    private final List<Bench.Call> done = new ArrayList<>();
    private final String letters;
    private final int seed;
    private boolean isWrong = false;

    private ModelTest(int seed) {
        this.seed = seed;
        random = new Random(seed);
        letters = LETTERS[seed % LETTERS.length];
    }

    public static void main(String[] args) {
        int wrongRuns = 0;
        for (int seed = 0; seed < RUNS && wrongRuns < MOST_WRONG_RUNS; seed++) {
            ModelTest test = new ModelTest(seed);
            test.run();
            wrongRuns += test.isWrong ? 1 : 0;
        }
        Bench.close();
    }

    private void run() {
        for (int r = 0; r < 4; r++) {
            feedRow(random.nextInt(12) == 0 ? ROW_MOST : random.nextInt(18));
            drawCall(2, r);
        }
        drawCallsUpTo(done.size() + random.nextInt(MOST_BEFORE_READING - done.size()));
        readAll();
        drawCallsUpTo(MOST_CALLS);
    }

    private void drawCallsUpTo(int number) {
        while (done.size() < number) {
            int name = random.nextInt(NAMES.length);
            if (name > 0) {
                drawCall(name, register());
            } else if (done.size() + MOST_FED_AT_ONCE / 20 < number) {
                feedRow(random.nextInt(MOST_FED_AT_ONCE));
            }
        }
    }

    private void feedRow(int length) {
        int before = model.tape.length();
        for (int i = 0; i < length; i += 20) {
            int[] fed = {four(), four(), four(), four(), four()};
            call("feed", d -> d.feed(fed[0], fed[1], fed[2], fed[3], fed[4]), model.feed(fed));
        }
        call("end", d -> d.end(before + length), model.end(before + length));
    }

    private int four() {
        int value = 0;
        for (int i = 0; i < 4; i++) {
            value = value << 8 | letters.charAt(random.nextInt(letters.length()));
        }
        return value;
    }

    /** Few registers are used often, so that calls meet what other calls made. */
    private int register() {
        int kind = random.nextInt(30);
        return kind == 0 ? -1 + 11 * random.nextInt(2) : random.nextInt(kind < 4 ? 10 : 6);
    }

    private int number() {
        int[] odd = {-2, 99, 100, 199, 200, 201, Integer.MIN_VALUE, Integer.MIN_VALUE + 1,
            Integer.MAX_VALUE, Integer.MAX_VALUE - 1, 1 << 30, 1 << 29, 0x55555556, 1 << 24, 256, 255};
        return random.nextInt(12) == 0 ? odd[random.nextInt(odd.length)] : random.nextInt(14) - 1;
    }

    private int choice(int most) {
        return random.nextInt(25) == 0 ? -1 + (most + 2) * random.nextInt(2) : random.nextInt(most + 1);
    }

    private void drawCall(int name, int a) {
        int b = register();
        int c = register();
        int to = register();
        int k = number();
        int n = number();
        boolean flag = random.nextBoolean();
        String shown = NAMES[name] + " a " + a + " b " + b + " c " + c + " to " + to + " k " + k + " n " + n
                + " " + flag;
        switch (name) {
            case 1 -> call(shown, d -> d.end(n), model.end(n));
            case 2 -> call(shown, d -> d.put(a), model.put(a));
            case 3 -> call(shown, d -> d.at(a, n), model.at(a, n));
            case 4 -> call(shown, d -> d.size(a), model.size(a));
            case 5 -> changePad(shown);
            case 6 -> fill(shown, a, n, to);
            case 7 -> call(shown, d -> d.part(a, k, n, to), model.part(a, k, n, to));
            case 8 -> call(shown, d -> d.cut(a, k, n, to), model.cut(a, k, n, to));
            case 9 -> call(shown, d -> d.join(a, b, n, to), model.join(a, b, n, to));
            case 10 -> call(shown, d -> d.copies(a, n, to), model.copies(a, n, to));
            case 11 -> call(shown, d -> d.set(a, b, n, flag, to), model.set(a, b, n, flag, to));
            case 12 -> call(shown, d -> d.find(a, b, k, flag), model.find(a, b, k, flag));
            case 13 -> call(shown, d -> d.change(a, b, c, to), model.change(a, b, c, to));
            case 14 -> call(shown, d -> d.often(a, b), model.often(a, b));
            case 15 -> call(shown, d -> d.unlike(a, b), model.unlike(a, b));
            default -> drawFurtherCall(name, shown, new int[] {a, b, c, to, k, n}, flag);
        }
    }

    private void drawFurtherCall(int name, String shown, int[] v, boolean flag) {
        int a = v[0];
        int b = v[1];
        int c = v[2];
        int to = v[3];
        int k = v[4];
        int n = v[5];
        int of2 = choice(1);
        int of3 = choice(2);
        int of5 = choice(4);
        String more = shown + " choices " + of2 + " " + of3 + " " + of5;
        switch (name) {
            case 16 -> call(more, d -> d.strip(a, of3, to), model.strip(a, of3, to));
            case 17 -> call(more, d -> d.turn(of5, a, to), model.turn(of5, a, to));
            case 18 -> call(more, d -> d.translate(a, b, c, to), model.translate(a, b, c, to));
            case 19 -> call(more, d -> d.verify(a, b, k, flag), model.verify(a, b, k, flag));
            case 20 -> call(more, d -> d.space(a, n, to), model.space(a, n, to));
            case 21 -> call(more, d -> d.words(a), model.words(a));
            case 22 -> call(more, d -> d.word(a, k, of2), model.word(a, k, of2));
            case 23 -> call(more, d -> d.some(a, k, n, flag, to), model.some(a, k, n, flag, to));
            case 24 -> call(more, d -> d.order(a, of2, to), model.order(a, of2, to));
            default -> call(more, d -> d.place(a, b, k), model.place(a, b, k));
        }
    }

    private void changePad(String shown) {
        int p = random.nextInt(4) == 0 ? number() : letters.charAt(random.nextInt(letters.length()));
        call(shown + " p " + p, d -> d.pad(p), model.pad(p));
    }

    private void fill(String shown, int a, int n, int to) {
        int way = choice(2);
        call(shown + " way " + way, d -> d.fill(way, a, n, to), model.fill(way, a, n, to));
    }

    /** Behind a wrong answer nothing more is looked at in the run, as what comes may follow from it. */
    private void call(String shown, Bench.Call call, int want) {
        done.add(call);
        if (!isWrong) {
            String name = "seed " + seed + ", call " + done.size() + ": " + shown;
            isWrong = !Bench.due(name, call.on(desk), want);
        }
    }

    private void readAll() {
        if (isWrong) {
            return;
        }
        int wrongBefore = Bench.wrong();
        String name = "seed " + seed + ", call " + done.size();
        for (int r = 0; r < model.rows.length; r++) {
            Bench.dueRow(name, deskAfterCalls(), r, model.rows[r]);
        }
        Bench.dueTape(name, deskAfterCalls(), model.tape);
        Bench.due("after " + name + ": the pad", deskAfterCalls().pad(0), model.pad);
        isWrong = Bench.wrong() > wrongBefore;
    }

    private RowDesk deskAfterCalls() {
        RowDesk another = new RowDesk();
        for (Bench.Call call : done) {
            call.on(another);
        }
        return another;
    }
}
