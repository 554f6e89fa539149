/** Promises 1 to 7, sentence by sentence: a new object, the tape, the registers, the pad. */
public final class TapeAndRegistersTest {
    private static final int NONE = Bench.NONE;
    private static final int FULL = Bench.FULL;
    private static final String MOST = "ab".repeat(100);

    public static void main(String[] args) {
        newObject();
        newObjectsApart();
        feedComesBehind();
        feedHighestFirst();
        feedFull();
        feedFullNoneCome();
        endFirstAlone();
        endNotSoMany();
        endBelow0();
        putRow();
        putEmptiesTheTape();
        putNone();
        putFull();
        at();
        atNone();
        size();
        sizeNone();
        padWas();
        padNone();
        Bench.close();
    }

    private static void newObject() {
        Bench.sentence("Promise 1", "in the state that the terms give");
        RowDesk desk = new RowDesk();
        for (int r : Bench.ALL_REGISTERS) {
            Bench.due("size(" + r + ")", desk.size(r), 0);
            Bench.due("at(" + r + ", 0)", desk.at(r, 0), NONE);
        }
        Bench.due("end(1)", desk.end(1), NONE);
        Bench.due("end(0)", desk.end(0), 0);
        Bench.due("put(0)", desk.put(0), 0);
        Bench.due("pad(0)", desk.pad(0), 32);
    }

    private static void newObjectsApart() {
        Bench.sentence("Promise 1", "makes an object");
        RowDesk one = new RowDesk();
        RowDesk two = new RowDesk();
        Bench.load(one, 0, "one");
        Bench.load(two, 0, "second");
        one.pad(46);
        one.feed(1, 2, 3, 4, 5);
        Bench.due("pad of the other", two.pad(47), 32);
        Bench.dueRow("both", one, 0, "one");
        Bench.dueRow("both", two, 0, "second");
        Bench.dueTape("a feed of the other", two, "");
    }

    private static void feedComesBehind() {
        Bench.sentence("Promise 2", "Twenty bytes come behind those on THE TAPE");
        RowDesk desk = new RowDesk();
        Bench.feedText(desk, 0, "abc");
        Bench.feedText(desk, 3, "defghijklmnopqrstuvwxyz");
        Bench.due("put(9)", desk.put(9), 26);
        Bench.dueRow("two feeds", desk, 9, "abcdefghijklmnopqrstuvwxyz");
    }

    private static void feedHighestFirst() {
        Bench.sentence("Promise 2", "the highest of each int first: how many there are");
        RowDesk desk = new RowDesk();
        int least = Bench.LEAST;
        Bench.due("feed", desk.feed(0x00010203, 0x7f8081ff, Bench.GREATEST, least, -1), 20);
        Bench.due("feed", desk.feed(0xfffefdfc, 0, 0x20, 0x61626364, 1 << 16), 40);
        Bench.due("put(3)", desk.put(3), 40);
        Bench.dueRow("feed", desk, 3, "\0\1\2\3\177\200\201\377\177\377\377\377\200\0\0\0\377\377\377\377"
                + "\377\376\375\374\0\0\0\0\0\0\0 abcd\0\1\0\0");
    }

    private static void feedFull() {
        Bench.sentence("Promise 2", "FULL ... if there would be more than 240");
        for (int before = 0; before <= 240; before++) {
            RowDesk desk = new RowDesk();
            Bench.feedText(desk, 0, "x".repeat(before));
            int want = before <= 220 ? before + 20 : FULL;
            Bench.due("feed behind " + before, desk.feed(0, -1, 0, -1, 0), want);
        }
    }

    private static void feedFullNoneCome() {
        Bench.sentence("Promise 2", "FULL, and none come");
        for (int before : new int[] {221, 222, 230, 239, 240}) {
            String fed = ("ab".repeat(120)).substring(0, before);
            Bench b = new Bench('-', "row").withTape(fed);
            b.answers("feed behind " + before, d -> d.feed(0, -1, 0x20202020, 7, 1 << 31), FULL);
        }
        RowDesk desk = new RowDesk();
        Bench.feedText(desk, 0, MOST + "x".repeat(21));
        Bench.due("feed behind 221", desk.feed(9, 9, 9, 9, 9), FULL);
        Bench.due("end(3)", desk.end(3), 3);
        Bench.due("feed behind 3", desk.feed(0x63646566, 0, 0, 0, 0), 23);
        Bench.due("end(7)", desk.end(7), 7);
        Bench.dueTape("a feed that came behind one that did not", desk, "abacdef");
    }

    private static void endFirstAlone() {
        Bench.sentence("Promise 3", "THE TAPE has its first n bytes alone: n");
        for (int n = 0; n <= 6; n++) {
            RowDesk desk = new RowDesk();
            Bench.feedText(desk, 0, "abcdef");
            Bench.due("end(" + n + ")", desk.end(n), n);
            Bench.dueTape("end(" + n + ")", desk, "abcdef".substring(0, n));
        }
        RowDesk desk = new RowDesk();
        Bench.feedText(desk, 0, MOST + "x".repeat(40));
        for (int n : new int[] {240, 239, 221, 220, 201, 200, 199, 20, 1, 0}) {
            Bench.due("end(" + n + ") going down", desk.end(n), n);
        }
        Bench.dueTape("end(0)", desk, "");
    }

    private static void endNotSoMany() {
        Bench.sentence("Promise 3", "NONE if there are not so many");
        Bench b = new Bench('-', "row").withTape("abcdef");
        b.answersEach(new int[] {7, 8, 20, 240, 241, Bench.GREATEST - 1, Bench.GREATEST}, "end",
                (d, n) -> d.end(n), NONE);
        Bench empty = new Bench('-', "row").withTape("");
        empty.answersEach(new int[] {1, 20, 240, Bench.GREATEST}, "end of none", (d, n) -> d.end(n), NONE);
        Bench full = new Bench('-', "row").withTape(MOST + "x".repeat(40));
        full.answersEach(new int[] {241, 256, Bench.GREATEST}, "end of 240", (d, n) -> d.end(n), NONE);
    }

    private static void endBelow0() {
        Bench.sentence("Promise 3", "or n is below 0");
        Bench b = new Bench('-', "row").withTape("abcdef");
        b.answersEach(Bench.BELOW_0, "end", (d, n) -> d.end(n), NONE);
        Bench empty = new Bench('-', "row").withTape("");
        empty.answersEach(Bench.BELOW_0, "end of none", (d, n) -> d.end(n), NONE);
    }

    private static void putRow() {
        Bench.sentence("Promise 4", "THE TAPE's bytes are REGISTER r ... how many");
        for (String text : new String[] {"", "a", "short", "\0\377 ", "x".repeat(199), MOST}) {
            for (int r : Bench.ALL_REGISTERS) {
                RowDesk desk = new RowDesk();
                Bench.load(desk, r, "a longer row");
                Bench.feedText(desk, 0, text);
                Bench.due("put(" + r + ")", desk.put(r), text.length());
                Bench.dueRow("put", desk, r, text);
            }
        }
    }

    private static void putEmptiesTheTape() {
        Bench.sentence("Promise 4", "THE TAPE is empty then");
        for (String text : new String[] {"", "a", MOST}) {
            RowDesk desk = new RowDesk();
            Bench.feedText(desk, 0, text);
            Bench.due("put(4)", desk.put(4), text.length());
            Bench.dueTape("put(4)", desk, "");
        }
        RowDesk desk = new RowDesk();
        Bench.load(desk, 4, MOST);
        Bench.load(desk, 5, "b");
        Bench.dueRow("put(5)", desk, 4, MOST);
        Bench.dueRow("put(5)", desk, 5, "b");
        Bench.due("put(5) of none", desk.put(5), 0);
        Bench.dueRow("put(5) of none", desk, 5, "");
    }

    private static void putNone() {
        Bench.sentence("Promise 4", "NONE ...: THE TAPE stays");
        for (String text : new String[] {"", "abc", MOST, MOST + "c", MOST + "x".repeat(40)}) {
            Bench b = new Bench('-', "row").withTape(text);
            b.answersEach(Bench.NO_REGISTERS, "put of " + text.length(), (d, r) -> d.put(r), NONE);
        }
    }

    private static void putFull() {
        Bench.sentence("Promise 4", "FULL (above 200): THE TAPE stays");
        for (String more : new String[] {"c", "cd", "c".repeat(20), "c".repeat(39), "c".repeat(40)}) {
            Bench b = new Bench('-', "row", "").withTape(MOST + more);
            b.answersEach(Bench.ALL_REGISTERS, "put of 200 and " + more.length(), (d, r) -> d.put(r), FULL);
        }
        RowDesk desk = new RowDesk();
        Bench.feedText(desk, 0, MOST + "c");
        Bench.due("put(0) of 201", desk.put(0), FULL);
        Bench.due("end(200) then", desk.end(200), 200);
        Bench.due("put(0) then", desk.put(0), 200);
        Bench.dueRow("put(0) then", desk, 0, MOST);
    }

    private static void at() {
        Bench.sentence("Promise 5", "Byte i of REGISTER r, from 0 on");
        for (int r : Bench.ALL_REGISTERS) {
            RowDesk desk = new RowDesk();
            Bench.load(desk, r, "\377\200\177\0" + "x".repeat(195) + "z");
            int[] first = {255, 128, 127, 0, 'x'};
            for (int i = 0; i < first.length; i++) {
                Bench.due("at(" + r + ", " + i + ")", desk.at(r, i), first[i]);
            }
            Bench.due("at(" + r + ", 198)", desk.at(r, 198), 'x');
            Bench.due("at(" + r + ", 199)", desk.at(r, 199), 'z');
        }
    }

    private static void atNone() {
        Bench.sentence("Promise 5", "NONE");
        Bench b = new Bench('-', "abc", "", MOST);
        int[] below = Bench.BELOW_0;
        int[] behind = {200, 201, 255, 256, Bench.GREATEST - 1, Bench.GREATEST};
        for (int r : new int[] {0, 1, 2}) {
            b.answersEach(below, "at " + r + " of", (d, i) -> d.at(r, i), NONE);
            b.answersEach(behind, "at " + r + " of", (d, i) -> d.at(r, i), NONE);
        }
        b.answers("at just behind the end", d -> d.at(0, 3), NONE);
        b.answers("at 0 of none", d -> d.at(1, 0), NONE);
        b.answersEach(Bench.NO_REGISTERS, "at 0 of no register", (d, r) -> d.at(r, 0), NONE);
        RowDesk desk = new RowDesk();
        Bench.load(desk, 0, "a longer row");
        Bench.load(desk, 0, "short");
        Bench.due("at where a longer row was", desk.at(0, 5), NONE);
        Bench.due("at where a longer row was", desk.at(0, 11), NONE);
    }

    private static void size() {
        Bench.sentence("Promise 6", "How many bytes REGISTER r has");
        Bench b = new Bench('-', "", "a", "ab", "  ", "\0", "-", "x".repeat(199), MOST, "x".repeat(128), " ");
        int[] sizes = {0, 1, 2, 2, 1, 1, 199, 200, 128, 1};
        b.answersInTurn(sizes, 0, "size", (d, r) -> d.size(r));
    }

    private static void sizeNone() {
        Bench.sentence("Promise 6", "NONE");
        Bench b = new Bench('-', "row");
        b.answersEach(Bench.NO_REGISTERS, "size", (d, r) -> d.size(r), NONE);
    }

    private static void padWas() {
        Bench.sentence("Promise 7", "THE PAD is p: what it was");
        RowDesk desk = new RowDesk();
        int before = 32;
        for (int p = 0; p <= 255; p++) {
            Bench.due("pad(" + p + ")", desk.pad(p), before);
            before = p;
        }
        Bench.due("pad(255) again", desk.pad(255), 255);
        Bench.due("pad(45)", desk.pad(45), 255);
        Bench.due("fill", desk.fill(0, 0, 3, 0), 3);
        Bench.due("pad(0)", desk.pad(0), 45);
        Bench.dueRow("pads before another pad", desk, 0, "---");
        Bench.due("fill", desk.fill(0, 0, 5, 0), 5);
        Bench.dueRow("pads behind other pads", desk, 0, "---\0\0");
    }

    private static void padNone() {
        Bench.sentence("Promise 7", "NONE if p is not 0 .. 255");
        int[] above = {256, 257, 300, 512, 65536, Bench.GREATEST - 1, Bench.GREATEST};
        for (int pad : new int[] {0, 32, 255}) {
            Bench b = new Bench(pad, "row");
            b.answersEach(above, "pad", (d, p) -> d.pad(p), NONE);
            b.answersEach(Bench.BELOW_0, "pad", (d, p) -> d.pad(p), NONE);
        }
    }
}
