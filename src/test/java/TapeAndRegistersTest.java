/** Promises 1 to 7: a new object, the tape, the registers, the pad. */
public final class TapeAndRegistersTest {
    private static final int NONE = Bench.NONE;
    private static final int FULL = Bench.FULL;

    public static void main(String[] args) {
        newObject();
        feed();
        feedWhenFull();
        end();
        put();
        putOverALongerRow();
        atAndSize();
        pad();
        twoDesks();
        Bench.close();
    }

    private static void newObject() {
        RowDesk desk = new RowDesk();
        for (int r = 0; r < 10; r++) {
            Bench.due("new: size(" + r + ")", desk.size(r), 0);
            Bench.due("new: at(" + r + ", 0)", desk.at(r, 0), NONE);
        }
        Bench.due("new: end(1)", desk.end(1), NONE);
        Bench.due("new: end(0)", desk.end(0), 0);
        Bench.due("new: put(0)", desk.put(0), 0);
        Bench.due("new: pad(0)", desk.pad(0), 32);
    }

    private static void feed() {
        RowDesk desk = new RowDesk();
        Bench.due("feed", desk.feed(0x00010203, 0x7f8081ff, 0xfffefdfc, 0x80000000, 0x0000007f), 20);
        Bench.due("put(3)", desk.put(3), 20);
        Bench.dueText("feed", Bench.text(desk, 3),
                "\0\1\2\3\177\200\201\377\377\376\375\374\200\0\0\0\0\0\0\177");
        Bench.feedText(desk, 0, "abc");
        Bench.feedText(desk, 3, "defghijklmnopqrstuvwxyz");
        Bench.due("put(9)", desk.put(9), 26);
        Bench.dueText("fed twice", Bench.text(desk, 9), "abcdefghijklmnopqrstuvwxyz");
    }

    private static void feedWhenFull() {
        RowDesk desk = new RowDesk();
        for (int i = 1; i <= 12; i++) {
            Bench.due("feed " + i, desk.feed(i, i, i, i, i), 20 * i);
        }
        Bench.due("feed 13", desk.feed(9, 9, 9, 9, 9), FULL);
        Bench.due("end(240) after a full feed", desk.end(240), 240);
        Bench.due("end(221)", desk.end(221), 221);
        Bench.due("feed at 221", desk.feed(9, 9, 9, 9, 9), FULL);
        Bench.due("end(222)", desk.end(222), NONE);
        Bench.due("end(220)", desk.end(220), 220);
        Bench.due("feed at 220", desk.feed(9, 9, 9, 9, 9), 240);
    }

    private static void end() {
        RowDesk desk = new RowDesk();
        Bench.feedText(desk, 0, "abcdef");
        Bench.due("end(7)", desk.end(7), NONE);
        Bench.due("end(-1)", desk.end(-1), NONE);
        Bench.due("end(least)", desk.end(Bench.LEAST), NONE);
        Bench.due("end(greatest)", desk.end(Bench.GREATEST), NONE);
        Bench.due("end(6)", desk.end(6), 6);
        Bench.due("end(4)", desk.end(4), 4);
        Bench.due("end(5) then", desk.end(5), NONE);
        Bench.due("put(0)", desk.put(0), 4);
        Bench.dueText("end(4)", Bench.text(desk, 0), "abcd");
        Bench.feedText(desk, 0, "xyz");
        Bench.due("end(0)", desk.end(0), 0);
        Bench.due("put(0)", desk.put(0), 0);
        Bench.dueText("put of none", Bench.text(desk, 0), "");
    }

    private static void put() {
        RowDesk desk = new RowDesk();
        Bench.load(desk, 0, "old");
        String most = "ab".repeat(100);
        Bench.feedText(desk, 0, most + "c");
        for (int r : Bench.NO_REGISTERS) {
            Bench.due("put(" + r + ") of 201", desk.put(r), NONE);
        }
        Bench.due("put(0) of 201", desk.put(0), FULL);
        Bench.dueText("put(0) of 201", Bench.text(desk, 0), "old");
        Bench.due("end(201), the tape stayed", desk.end(201), 201);
        Bench.due("end(200)", desk.end(200), 200);
        Bench.due("put(10) of 200", desk.put(10), NONE);
        Bench.due("put(0) of 200", desk.put(0), 200);
        Bench.dueText("put(0) of 200", Bench.text(desk, 0), most);
        Bench.due("end(1) after put", desk.end(1), NONE);
        Bench.due("put(1) after put", desk.put(1), 0);
    }

    private static void putOverALongerRow() {
        RowDesk desk = new RowDesk();
        Bench.load(desk, 0, "a longer row");
        Bench.load(desk, 0, "short");
        Bench.dueText("put over a longer row", Bench.text(desk, 0), "short");
        Bench.due("at behind the end", desk.at(0, 5), NONE);
    }

    private static void atAndSize() {
        RowDesk desk = new RowDesk();
        for (int r = 0; r < 10; r++) {
            Bench.load(desk, r, ("" + (char) (200 + r)).repeat(r + 1));
        }
        for (int r = 0; r < 10; r++) {
            Bench.due("size(" + r + ")", desk.size(r), r + 1);
            Bench.due("at(" + r + ", 0)", desk.at(r, 0), 200 + r);
            Bench.due("at(" + r + ", " + r + ")", desk.at(r, r), 200 + r);
            Bench.due("at(" + r + ", " + (r + 1) + ")", desk.at(r, r + 1), NONE);
            for (int i : new int[] {-1, 200, Bench.GREATEST, Bench.LEAST}) {
                Bench.due("at(" + r + ", " + i + ")", desk.at(r, i), NONE);
            }
        }
        for (int r : Bench.NO_REGISTERS) {
            Bench.due("size(" + r + ")", desk.size(r), NONE);
            Bench.due("at(" + r + ", 0)", desk.at(r, 0), NONE);
        }
    }

    private static void pad() {
        RowDesk desk = new RowDesk();
        for (int p : new int[] {-1, 256, Bench.GREATEST, Bench.LEAST}) {
            Bench.due("pad(" + p + ")", desk.pad(p), NONE);
        }
        Bench.due("pad(255)", desk.pad(255), 32);
        Bench.due("pad(256) then", desk.pad(256), NONE);
        Bench.due("pad(0)", desk.pad(0), 255);
        Bench.due("pad(45)", desk.pad(45), 0);
        Bench.due("fill", desk.fill(0, 0, 1, 0), 1);
        Bench.due("at(0, 0)", desk.at(0, 0), 45);
        Bench.due("pad(45) again", desk.pad(45), 45);
    }

    /** Two desks have nothing in common. */
    private static void twoDesks() {
        RowDesk one = new RowDesk();
        RowDesk two = new RowDesk();
        Bench.load(one, 0, "one");
        Bench.load(two, 0, "second");
        one.pad(46);
        one.feed(1, 2, 3, 4, 5);
        Bench.due("pad of the other", two.pad(47), 32);
        Bench.due("tape of the other", two.end(1), NONE);
        Bench.dueText("row of one", Bench.text(one, 0), "one");
        Bench.dueText("row of the other", Bench.text(two, 0), "second");
    }
}
