/**
 * Rows and a pad from which each check starts a desk of its own, so that no check leans on another
 * and no desk comes near its 512th call. Rows are given and read as texts of characters 0 .. 255.
 */
final class Bench {
    static final int NONE = -1;
    static final int FULL = -4;
    static final int GREATEST = Integer.MAX_VALUE;
    static final int LEAST = Integer.MIN_VALUE;
    static final int[] NO_REGISTERS = {-1, 10, 11, LEAST, GREATEST};

    private static final int REGISTERS = 10;
    private static int wrong = 0;
    private static int checks = 0;

    private final int pad;
    private final String[] rows = new String[REGISTERS];

    interface Call {
        int on(RowDesk desk);
    }

    /** The texts are in registers 0, 1, 2 ..; those behind them have something to be replaced. */
    Bench(int pad, String... texts) {
        this.pad = pad;
        for (int r = 0; r < REGISTERS; r++) {
            rows[r] = r < texts.length ? texts[r] : "was here";
        }
    }

    /** The call makes this row in register `to`, and changes nothing else. */
    void made(String name, Call call, int to, String want) {
        RowDesk desk = newDesk();
        due(name, call.on(desk), want.length());
        dueText(name, text(desk, to), want);
        stays(name, desk, to);
    }

    /** The call answers so, and changes nothing. */
    void answers(String name, Call call, int want) {
        RowDesk desk = newDesk();
        due(name, call.on(desk), want);
        stays(name, desk, NONE);
    }

    static void due(String call, long got, long want) {
        checks++;
        if (got != want) {
            wrong++;
            System.out.println(call + " answered " + got + ", due is " + want);
        }
    }

    static void dueText(String call, String got, String want) {
        checks++;
        if (!got.equals(want)) {
            wrong++;
            System.out.println(call + " made " + shown(got) + ", due is " + shown(want));
        }
    }

    /** Ends the program, with exit code 1 if an answer was not the one due. */
    static void close() {
        System.out.println(checks + " checks, " + wrong + " wrong");
        if (wrong > 0) {
            System.exit(1);
        }
    }

    /** Feeds a text behind what is on the tape, that has `before` bytes. */
    static void feedText(RowDesk desk, int before, String text) {
        for (int i = 0; i < text.length(); i += 20) {
            due("feed", desk.feed(four(text, i), four(text, i + 4), four(text, i + 8),
                    four(text, i + 12), four(text, i + 16)), before + i + 20);
        }
        due("end", desk.end(before + text.length()), before + text.length());
    }

    static void load(RowDesk desk, int r, String text) {
        feedText(desk, 0, text);
        due("put(" + r + ")", desk.put(r), text.length());
    }

    static String text(RowDesk desk, int r) {
        StringBuilder text = new StringBuilder();
        int size = desk.size(r);
        for (int i = 0; i < size; i++) {
            text.append((char) desk.at(r, i));
        }
        return text.toString();
    }

    private RowDesk newDesk() {
        RowDesk desk = new RowDesk();
        for (int r = 0; r < REGISTERS; r++) {
            if (!rows[r].isEmpty()) {
                load(desk, r, rows[r]);
            }
        }
        due("pad", desk.pad(pad), 32);
        return desk;
    }

    /** All but register `but` is as it was; of long rows only the ends are looked at. */
    private void stays(String name, RowDesk desk, int but) {
        for (int r = 0; r < REGISTERS; r++) {
            if (r == but) {
                continue;
            }
            String row = rows[r];
            String what = "after " + name + ": register " + r;
            due(what + ", size", desk.size(r), row.length());
            for (int i = 0; i < row.length(); i++) {
                if (i < 10 || i >= row.length() - 10) {
                    due(what + ", byte " + i, desk.at(r, i), row.charAt(i));
                }
            }
        }
        due("after " + name + ": end(1)", desk.end(1), NONE);
        due("after " + name + ": pad", desk.pad(pad), pad);
    }

    private static String shown(String text) {
        StringBuilder shown = new StringBuilder("\"");
        for (char c : text.toCharArray()) {
            if (c >= 32 && c < 127) {
                shown.append(c);
            } else {
                shown.append('<').append((int) c).append('>');
            }
        }
        return shown.append("\" (").append(text.length()).append(" bytes)").toString();
    }

    private static int four(String text, int i) {
        int value = 0;
        for (int j = i; j < i + 4; j++) {
            value = value << 8 | (j < text.length() ? text.charAt(j) : 0);
        }
        return value;
    }
}
