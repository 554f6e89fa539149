/**
 * Rows, a pad and a tape from which each check starts desks of its own, so that no check leans on
 * another and no desk comes near its 512th call. Rows are given and read as texts of characters
 * 0 .. 255.
 */
final class Bench {
    static final int NONE = -1;
    static final int FULL = -4;
    static final int GREATEST = Integer.MAX_VALUE;
    static final int LEAST = Integer.MIN_VALUE;
    static final int ROW_MOST = 200;
    static final int[] ALL_REGISTERS = {0, 1, 2, 3, 4, 5, 6, 7, 8, 9};
    static final int[] NO_REGISTERS = {-1, -2, 10, 11, 16, 256, LEAST, LEAST + 1, GREATEST - 1, GREATEST};
    static final int[] BELOW_NONE = {-2, -3, FULL, -200, -256, LEAST + 1, LEAST};
    static final int[] BELOW_0 = {-1, -2, FULL, -200, -256, LEAST + 1, LEAST};
    static final int[] BELOW_1 = {0, -1, -2, FULL, -200, -256, LEAST + 1, LEAST};
    /** With these, sums and products of two ints wrap around to 0, to few bytes or below 0. */
    static final int[] ABOVE_200 = {201, 256, 65536, 1 << 24, 1 << 29, 1 << 30, 0x55555556,
        GREATEST - 199, GREATEST - 1, GREATEST};

    private static final int REGISTERS = 10;
    private static String sentence = "";
    private static int sentences = 0;
    private static int checks = 0;
    private static int wrong = 0;

    private final int pad;
    private final String[] rows = new String[REGISTERS];
    private String tape = "left on the tape";

    interface Call {
        int on(RowDesk desk);
    }

    interface NumberCall {
        int on(RowDesk desk, int number);
    }

    /** The texts are in registers 0, 1, 2 ..; those behind them have something to be replaced. */
    Bench(int pad, String... texts) {
        this.pad = pad;
        for (int r = 0; r < REGISTERS; r++) {
            rows[r] = r < texts.length ? texts[r] : "was here";
        }
    }

    Bench withTape(String text) {
        tape = text;
        return this;
    }

    /** The checks that follow are of these words of the document. */
    static void sentence(String place, String words) {
        sentence = place + ", \"" + words + "\": ";
        sentences++;
    }

    /** The call makes this row in register `to`, and changes nothing else. */
    void made(String name, Call call, int to, String want) {
        look(name, call, want.length(), to, want);
    }

    /** The call answers so, and changes nothing. */
    void answers(String name, Call call, int want) {
        look(name, call, want, NONE, "");
    }

    void answersEach(int[] numbers, String name, NumberCall call, int want) {
        for (int number : numbers) {
            answers(name + " " + number, desk -> call.on(desk, number), want);
        }
    }

    void madeEach(int[] numbers, String name, NumberCall call, int to, String want) {
        for (int number : numbers) {
            made(name + " " + number, desk -> call.on(desk, number), to, want);
        }
    }

    /** What is due stands at the number's own index. */
    void answersInTurn(int[] want, int from, String name, NumberCall call) {
        for (int i = from; i < want.length; i++) {
            int number = i;
            answers(name + " " + number, desk -> call.on(desk, number), want[number]);
        }
    }

    static boolean due(String call, long got, long want) {
        checks++;
        if (got != want) {
            wrong++;
            System.out.println(sentence + call + " answered " + got + ", due is " + want);
        }
        return got == want;
    }

    static void dueText(String call, String got, String want) {
        checks++;
        if (!got.equals(want)) {
            wrong++;
            System.out.println(sentence + call + " has " + shown(got) + ", due is " + shown(want));
        }
    }

    /** The row of the register, and none behind its end. */
    static void dueRow(String name, RowDesk desk, int r, String want) {
        String what = "after " + name + ": register " + r;
        dueText(what, text(desk, r), want);
        due(what + ", behind its end", desk.at(r, want.length()), NONE);
    }

    /** Uses up the tape; bytes behind the 200th are counted alone, as no call can read them. */
    static void dueTape(String name, RowDesk desk, String want) {
        String what = "after " + name + ": the tape";
        int read = Math.min(want.length(), ROW_MOST);
        due(what + ", one more", desk.end(want.length() + 1), NONE);
        due(what + ", all", desk.end(want.length()), want.length());
        due(what + ", what a row can have", desk.end(read), read);
        due(what + ", put", desk.put(0), read);
        dueRow(name + ": the tape in", desk, 0, want.substring(0, read));
    }

    static int wrong() {
        return wrong;
    }

    /** Ends the program, with exit code 1 if an answer was not the one due. */
    static void close() {
        String of = sentences > 0 ? " of " + sentences + " sentences" : "";
        System.out.println(checks + " checks" + of + ", " + wrong + " wrong");
        if (wrong > 0) {
            System.exit(1);
        }
    }

    /** Feeds a text behind what is on the tape, that has `before` bytes. */
    static void feedText(RowDesk desk, int before, String text) {
        for (int i = 0; i < text.length(); i += 20) {
            due("feed", desk.feed(four(text, i), four(text, i + 4), four(text, i + 8),
                    four(text, i + 12), four(text, i + 16)), before + i + 20);
        }
        due("end", desk.end(before + text.length()), before + text.length());
    }

    static void load(RowDesk desk, int r, String text) {
        feedText(desk, 0, text);
        due("put(" + r + ")", desk.put(r), text.length());
    }

    static String text(RowDesk desk, int r) {
        StringBuilder text = new StringBuilder();
        int size = desk.size(r);
        for (int i = 0; i < size; i++) {
            text.append((char) desk.at(r, i));
        }
        return text.toString();
    }

    /** All that a desk has, each looked at on a desk of its own, as reading takes a call a byte. */
    private void look(String name, Call call, int answer, int to, String want) {
        if (!due(name, call.on(newDesk()), answer)) {
            return;
        }
        for (int r = 0; r < REGISTERS; r++) {
            dueRow(name, deskAfter(call), r, r == to ? want : rows[r]);
        }
        due("after " + name + ": the pad", deskAfter(call).pad(pad), pad);
        dueTape(name, deskAfter(call), tape);
    }

    private RowDesk deskAfter(Call call) {
        RowDesk desk = newDesk();
        call.on(desk);
        return desk;
    }

    private RowDesk newDesk() {
        RowDesk desk = usedDesk();
        for (int r = 0; r < REGISTERS; r++) {
            load(desk, r, rows[r]);
        }
        due("pad", desk.pad(pad), 32);
        feedText(desk, 0, tape);
        return desk;
    }

    /** A desk that has made long rows of many bytes and words, so that what they leave behind shows. */
    private static RowDesk usedDesk() {
        RowDesk desk = new RowDesk();
        load(desk, 0, "\0\377 zyxwvutsrqponmlkjihgfedcba YX-BA one two three four");
        due("order before", desk.order(0, 0, 1), 54);
        due("place before", desk.place(1, 0, 1), 0);
        due("translate before", desk.translate(0, 1, 0, 2), 54);
        due("fill before", desk.fill(1, 2, 200, 3), 200);
        due("verify before", desk.verify(0, 0, 1, false), 1);
        return desk;
    }

    private static String shown(String text) {
        StringBuilder shown = new StringBuilder("\"");
        for (char c : text.toCharArray()) {
            if (c >= 32 && c < 127) {
                shown.append(c);
            } else {
                shown.append('<').append((int) c).append('>');
            }
        }
        return shown.append("\" (").append(text.length()).append(" bytes)").toString();
    }

    private static int four(String text, int i) {
        int value = 0;
        for (int j = i; j < i + 4; j++) {
            value = value << 8 | (j < text.length() ? text.charAt(j) : 0);
        }
        return value;
    }
}
