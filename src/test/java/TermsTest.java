import java.util.ArrayList;
import java.util.List;

/** The document's section "Terms", sentence by sentence, over every call that a sentence holds for. */
public final class TermsTest {
    private static final int NONE = Bench.NONE;
    private static final int FULL = Bench.FULL;
    private static final String MOST = "ab".repeat(100);

    /** A call with one of its registers or numbers left open. */
    private record Open(String name, Bench.NumberCall call) {
    }

    /** A call with its register `to` left open, and what it makes. */
    private record Maker(String name, Bench.NumberCall call, String want) {
    }

    public static void main(String[] args) {
        tapeOf240();
        registers0To9();
        rowsOf200();
        anyBytes();
        anyBytesMade();
        atFirstOfNone();
        padAtFirst32();
        blanksAndWords();
        wordsNumberedFrom1();
        toMayBeOneItWorksOn();
        toMayBeAllItWorksOn();
        full();
        noRegister();
        noSuchNumber();
        registerAheadOfFull();
        numberAheadOfFull();
        call512();
        Bench.close();
    }

    private static void tapeOf240() {
        Bench.sentence("Terms", "THE TAPE has at most 240 bytes");
        RowDesk desk = new RowDesk();
        for (int bytes = 20; bytes <= 240; bytes += 20) {
            Bench.due("feed", desk.feed(1, 2, 3, 4, 5), bytes);
        }
        Bench.due("feed behind 240", desk.feed(1, 2, 3, 4, 5), FULL);
        Bench.due("end(241)", desk.end(241), NONE);
        Bench.due("end(240)", desk.end(240), 240);
        Bench.due("end(221)", desk.end(221), 221);
        Bench.due("feed behind 221", desk.feed(1, 2, 3, 4, 5), FULL);
        Bench.due("end(220)", desk.end(220), 220);
        Bench.due("feed behind 220", desk.feed(1, 2, 3, 4, 5), 240);
    }

    private static void registers0To9() {
        Bench.sentence("Terms", "There are REGISTERS 0 .. 9");
        String[] rows = new String[10];
        for (int r : Bench.ALL_REGISTERS) {
            rows[r] = "row " + r + "!".repeat(r);
        }
        Bench b = new Bench('-', rows);
        for (int r : Bench.ALL_REGISTERS) {
            b.answers("size " + r, d -> d.size(r), 5 + r);
            b.answers("at " + r, d -> d.at(r, 4), '0' + r);
            b.made("part of " + r, d -> d.part(r, 5, 1, 9 - r), 9 - r, "" + r);
        }
        for (Open open : openRegisters()) {
            for (int r : Bench.ALL_REGISTERS) {
                RowDesk desk = new RowDesk();
                Bench.load(desk, r, "row");
                Bench.due(open.name + " " + r + " is NONE", open.call.on(desk, r) == NONE ? 1 : 0, 0);
            }
        }
    }

    private static void rowsOf200() {
        Bench.sentence("Terms", "rows of at most 200 bytes");
        String words = "ab ".repeat(66) + "cd";
        Bench b = new Bench('-', MOST, "", words, "a", "b", "a".repeat(100));
        b.made("fill", d -> d.fill(0, 0, 200, 9), 9, MOST);
        b.made("part", d -> d.part(0, 1, 200, 9), 9, MOST);
        b.made("cut", d -> d.cut(0, 1, 0, 9), 9, MOST);
        b.made("join", d -> d.join(1, 0, 0, 9), 9, MOST);
        b.made("copies", d -> d.copies(0, 1, 9), 9, MOST);
        b.made("set in", d -> d.set(1, 0, 7, false, 9), 9, MOST);
        b.made("set over", d -> d.set(3, 0, 0, true, 9), 9, MOST);
        b.made("change", d -> d.change(3, 0, 3, 9), 9, MOST);
        b.made("change to longer", d -> d.change(5, 5, 0, 9), 9, MOST);
        b.made("strip", d -> d.strip(0, 0, 9), 9, MOST);
        b.made("turn", d -> d.turn(0, 0, 9), 9, "ba".repeat(100));
        b.made("translate", d -> d.translate(0, 4, 3, 9), 9, "b".repeat(200));
        b.made("space", d -> d.space(2, 1, 9), 9, words.replace(' ', '-'));
        b.made("some", d -> d.some(2, 1, NONE, false, 9), 9, words);
        b.made("without", d -> d.some(2, 68, 1, true, 9), 9, words);
        b.made("order", d -> d.order(2, 0, 9), 9, "cd" + " ab".repeat(66));
    }

    private static void anyBytes() {
        Bench.sentence("Terms", "any ones");
        for (int from : new int[] {0, 56}) {
            String bytes = bytesFrom(from);
            RowDesk desk = new RowDesk();
            Bench.load(desk, 7, bytes);
            Bench.dueRow("put of the bytes from " + from, desk, 7, bytes);
        }
    }

    private static void anyBytesMade() {
        Bench.sentence("Terms, of what a call makes", "any ones");
        for (int from : new int[] {0, 56}) {
            String bytes = bytesFrom(from);
            String about = new StringBuilder(bytes).reverse().toString();
            Bench b = new Bench('-', bytes, "", about);
            b.made("fill", d -> d.fill(2, 0, 200, 9), 9, bytes);
            b.made("part", d -> d.part(0, 1, NONE, 9), 9, bytes);
            b.made("cut", d -> d.cut(0, 200, 0, 9), 9, bytes);
            b.made("join", d -> d.join(0, 1, 0, 9), 9, bytes);
            b.made("copies", d -> d.copies(0, 1, 9), 9, bytes);
            b.made("set", d -> d.set(0, 1, 0, false, 9), 9, bytes);
            b.made("change", d -> d.change(0, 0, 2, 9), 9, about);
            b.made("turn about", d -> d.turn(0, 0, 9), 9, about);
            b.made("turn in order", d -> d.turn(3, 2, 9), 9, bytes);
            b.made("turn, each once", d -> d.turn(4, 2, 9), 9, about);
            b.made("translate", d -> d.translate(0, 2, 0, 9), 9, about);
            b.answers("find", d -> d.find(0, 0, 1, false), 1);
            b.answers("verify", d -> d.verify(0, 2, 1, true), 0);
        }
        Bench words = new Bench('-', bytesFrom(56), "\0 \1", "\377 \376");
        words.made("some", d -> d.some(0, 1, 1, false, 9), 9, bytesFrom(56));
        words.made("order low bytes", d -> d.order(1, 0, 9), 9, "\1 \0");
        words.made("order high bytes", d -> d.order(2, 1, 9), 9, "\376 \377");
    }

    private static void atFirstOfNone() {
        Bench.sentence("Terms", "at first of none");
        for (int r : Bench.ALL_REGISTERS) {
            RowDesk desk = new RowDesk();
            Bench.due("size " + r, desk.size(r), 0);
            Bench.dueRow("nothing", desk, r, "");
            Bench.due("words " + r, desk.words(r), 0);
            Bench.due("join " + r, desk.join(r, r, 0, r), 0);
        }
    }

    private static void padAtFirst32() {
        Bench.sentence("Terms", "THE PAD is a byte, at first 32");
        RowDesk desk = new RowDesk();
        Bench.due("fill", desk.fill(0, 0, 2, 0), 2);
        Bench.dueRow("fill", desk, 0, "  ");
        Bench.due("pad", desk.pad(255), 32);
        Bench.due("fill", desk.fill(1, 0, 3, 0), 3);
        Bench.dueRow("fill", desk, 0, "\377  ");
    }

    private static void blanksAndWords() {
        Bench.sentence("Terms", "BLANKS are bytes 32; WORDS of a row are its runs of other bytes");
        for (int v = 0; v <= 255; v++) {
            RowDesk desk = new RowDesk();
            desk.pad(v);
            Bench.load(desk, 0, "a" + (char) v + (char) v + "b");
            Bench.due("words around " + v, desk.words(0), v == 32 ? 2 : 1);
            Bench.load(desk, 1, " " + (char) v + "  ");
            Bench.due("words of " + v, desk.words(1), v == 32 ? 0 : 1);
        }
    }

    private static void wordsNumberedFrom1() {
        Bench.sentence("Terms", "numbered from 1");
        Bench b = new Bench('-', " a bb", "a", "bb");
        b.answers("word 1", d -> d.word(0, 1, 0), 2);
        b.answers("word 2", d -> d.word(0, 2, 0), 4);
        b.answers("word 3", d -> d.word(0, 3, 0), 0);
        b.answers("place of the first", d -> d.place(1, 0, 1), 1);
        b.answers("place of the second", d -> d.place(2, 0, 1), 2);
    }

    private static void toMayBeOneItWorksOn() {
        Bench.sentence("Terms", "REGISTER to (that may be one it works on), and answers how many");
        Bench b = new Bench('-', "ab bac", "ba", "XyZ", "--a-b-", "b a");
        for (Maker maker : makers()) {
            for (int to : Bench.ALL_REGISTERS) {
                b.made(maker.name + " to " + to, d -> maker.call.on(d, to), to, maker.want);
            }
        }
    }

    private static List<Maker> makers() {
        return List.of(
            new Maker("fill 0", (d, to) -> d.fill(0, 0, 8, to), "ab bac--"),
            new Maker("fill 0, cut", (d, to) -> d.fill(0, 0, 3, to), "ab "),
            new Maker("fill 1", (d, to) -> d.fill(1, 0, 8, to), "--ab bac"),
            new Maker("fill 1, cut", (d, to) -> d.fill(1, 0, 3, to), "bac"),
            new Maker("fill 2", (d, to) -> d.fill(2, 0, 9, to), "-ab bac--"),
            new Maker("fill 2, cut", (d, to) -> d.fill(2, 0, 3, to), "b b"),
            new Maker("part", (d, to) -> d.part(0, 2, 6, to), "b bac-"),
            new Maker("part NONE", (d, to) -> d.part(0, 2, NONE, to), "b bac"),
            new Maker("cut", (d, to) -> d.cut(0, 2, 2, to), "abac"),
            new Maker("cut NONE", (d, to) -> d.cut(0, 2, NONE, to), "a"),
            new Maker("join", (d, to) -> d.join(0, 1, 2, to), "ab bac--ba"),
            new Maker("copies", (d, to) -> d.copies(0, 2, to), "ab bacab bac"),
            new Maker("set in", (d, to) -> d.set(1, 0, 2, false, to), "abba bac"),
            new Maker("set in, filled", (d, to) -> d.set(1, 0, 7, false, to), "ab bac-ba"),
            new Maker("set over", (d, to) -> d.set(1, 0, 2, true, to), "abbaac"),
            new Maker("set over, filled", (d, to) -> d.set(1, 0, 7, true, to), "ab bac-ba"),
            new Maker("change", (d, to) -> d.change(1, 0, 2, to), "ab XyZc"),
            new Maker("strip 0", (d, to) -> d.strip(3, 0, to), "a-b"),
            new Maker("strip 1", (d, to) -> d.strip(3, 1, to), "a-b-"),
            new Maker("strip 2", (d, to) -> d.strip(3, 2, to), "--a-b"),
            new Maker("turn 0", (d, to) -> d.turn(0, 0, to), "cab ba"),
            new Maker("turn 1", (d, to) -> d.turn(1, 2, to), "XYZ"),
            new Maker("turn 2", (d, to) -> d.turn(2, 2, to), "xyz"),
            new Maker("turn 3", (d, to) -> d.turn(3, 0, to), " aabbc"),
            new Maker("turn 4", (d, to) -> d.turn(4, 0, to), "ab c"),
            new Maker("translate", (d, to) -> d.translate(0, 2, 1, to), "yX Xyc"),
            new Maker("space", (d, to) -> d.space(0, 3, to), "ab---bac"),
            new Maker("some", (d, to) -> d.some(0, 2, 1, false, to), "bac"),
            new Maker("without", (d, to) -> d.some(0, 2, 1, true, to), "ab "),
            new Maker("order 0", (d, to) -> d.order(0, 0, to), "bac ab"),
            new Maker("order 1", (d, to) -> d.order(4, 1, to), "a b"));
    }

    private static void toMayBeAllItWorksOn() {
        Bench.sentence("Terms, all registers the same", "REGISTER to (that may be one it works on)");
        for (int r : Bench.ALL_REGISTERS) {
            String[] rows = {"", "", "", "", "", "", "", "", "", ""};
            rows[r] = "ab c";
            Bench b = new Bench('-', rows);
            b.made("join", d -> d.join(r, r, 1, r), r, "ab c-ab c");
            b.made("copies", d -> d.copies(r, 3, r), r, "ab cab cab c");
            b.made("set in", d -> d.set(r, r, 2, false, r), r, "abab c c");
            b.made("set over", d -> d.set(r, r, 2, true, r), r, "abab c");
            b.made("change", d -> d.change(r, r, r, r), r, "ab c");
            b.made("translate", d -> d.translate(r, r, r, r), r, "ab c");
            b.made("some", d -> d.some(r, 2, 1, false, r), r, "c");
            b.made("order", d -> d.order(r, 0, r), r, "c ab");
        }
    }

    private static void full() {
        Bench.sentence("Terms", "What would have more than 200 is FULL: nothing changes");
        Bench b = new Bench('-', "x".repeat(100), "y".repeat(101), "a b", "x", "zz", "", "z".repeat(199), MOST);
        for (Maker maker : makersOf200()) {
            for (int to : Bench.ALL_REGISTERS) {
                b.made(maker.name + " of 200 to " + to, d -> maker.call.on(d, to), to, maker.want);
            }
        }
        for (Open maker : makersOf201()) {
            b.answersEach(Bench.ALL_REGISTERS, maker.name + " of more to", maker.call, FULL);
        }
    }

    private static List<Maker> makersOf200() {
        String x = "x".repeat(100);
        String z = "z".repeat(199);
        String pads = "-".repeat(200);
        return List.of(
            new Maker("fill 0", (d, to) -> d.fill(0, 3, 200, to), "x" + pads.substring(1)),
            new Maker("fill 1", (d, to) -> d.fill(1, 3, 200, to), pads.substring(1) + "x"),
            new Maker("part", (d, to) -> d.part(3, 2, 200, to), pads),
            new Maker("join", (d, to) -> d.join(0, 0, 0, to), x + x),
            new Maker("join with pads", (d, to) -> d.join(3, 3, 198, to), "x" + pads.substring(2) + "x"),
            new Maker("copies", (d, to) -> d.copies(0, 2, to), x + x),
            new Maker("set in", (d, to) -> d.set(3, 6, 0, false, to), "x" + z),
            new Maker("set over", (d, to) -> d.set(3, 6, 199, true, to), z + "x"),
            new Maker("set none in", (d, to) -> d.set(5, 5, 200, false, to), pads),
            new Maker("change", (d, to) -> d.change(3, 0, 4, to), "z".repeat(200)),
            new Maker("space", (d, to) -> d.space(2, 198, to), "a" + pads.substring(2) + "b"));
    }

    private static List<Open> makersOf201() {
        return List.of(
            new Open("fill 0", (d, to) -> d.fill(0, 2, 201, to)),
            new Open("fill 1", (d, to) -> d.fill(1, 2, 201, to)),
            new Open("fill 2", (d, to) -> d.fill(2, 2, 201, to)),
            new Open("part", (d, to) -> d.part(2, 2, 201, to)),
            new Open("join", (d, to) -> d.join(0, 1, 0, to)),
            new Open("join with pads", (d, to) -> d.join(3, 3, 199, to)),
            new Open("copies", (d, to) -> d.copies(1, 2, to)),
            new Open("set in", (d, to) -> d.set(4, 6, 0, false, to)),
            new Open("set over", (d, to) -> d.set(4, 6, 199, true, to)),
            new Open("set none in", (d, to) -> d.set(5, 5, 201, false, to)),
            new Open("set none over", (d, to) -> d.set(5, 5, 201, true, to)),
            new Open("change", (d, to) -> d.change(3, 0, 2, to)),
            new Open("space", (d, to) -> d.space(2, 199, to)));
    }

    private static void noRegister() {
        Bench.sentence("Terms", "A REGISTER that there is not ... is NONE: nothing changes");
        Bench b = new Bench('-', "a b", "b", "--c-", "");
        for (Open open : openRegisters()) {
            b.answersEach(Bench.NO_REGISTERS, open.name, open.call, NONE);
        }
    }

    /** Each register of each call once, with what else the call needs as it should be. */
    private static List<Open> openRegisters() {
        List<Open> all = new ArrayList<>();
        all.addAll(openRegistersAsked());
        all.addAll(openRegistersMadeFrom());
        all.addAll(openRegistersMadeTo());
        return all;
    }

    private static List<Open> openRegistersAsked() {
        return List.of(
            new Open("put", (d, r) -> d.put(r)),
            new Open("at", (d, r) -> d.at(r, 0)),
            new Open("size", (d, r) -> d.size(r)),
            new Open("find a", (d, r) -> d.find(r, 0, 1, false)),
            new Open("find b", (d, r) -> d.find(1, r, 1, false)),
            new Open("find a, last", (d, r) -> d.find(r, 0, NONE, true)),
            new Open("find b, last", (d, r) -> d.find(1, r, NONE, true)),
            new Open("find b, of none", (d, r) -> d.find(3, r, 1, false)),
            new Open("often a", (d, r) -> d.often(r, 0)),
            new Open("often b", (d, r) -> d.often(1, r)),
            new Open("often b, of none", (d, r) -> d.often(3, r)),
            new Open("unlike a", (d, r) -> d.unlike(r, 0)),
            new Open("unlike b", (d, r) -> d.unlike(0, r)),
            new Open("unlike b, of none", (d, r) -> d.unlike(3, r)),
            new Open("verify a", (d, r) -> d.verify(r, 0, 1, false)),
            new Open("verify b", (d, r) -> d.verify(0, r, 1, false)),
            new Open("verify a, other", (d, r) -> d.verify(r, 0, 1, true)),
            new Open("verify b, other", (d, r) -> d.verify(0, r, 1, true)),
            new Open("verify b, of none", (d, r) -> d.verify(3, r, 1, true)),
            new Open("words", (d, r) -> d.words(r)),
            new Open("word 0", (d, r) -> d.word(r, 1, 0)),
            new Open("word 1", (d, r) -> d.word(r, 1, 1)),
            new Open("place a", (d, r) -> d.place(r, 0, 1)),
            new Open("place b", (d, r) -> d.place(1, r, 1)),
            new Open("place b, of none", (d, r) -> d.place(3, r, 1)));
    }

    private static List<Open> openRegistersMadeFrom() {
        return List.of(
            new Open("fill 0 a", (d, r) -> d.fill(0, r, 3, 4)),
            new Open("fill 1 a", (d, r) -> d.fill(1, r, 3, 4)),
            new Open("fill 2 a", (d, r) -> d.fill(2, r, 0, 4)),
            new Open("part a", (d, r) -> d.part(r, 1, 1, 4)),
            new Open("cut a", (d, r) -> d.cut(r, 1, 1, 4)),
            new Open("join a", (d, r) -> d.join(r, 0, 1, 4)),
            new Open("join b", (d, r) -> d.join(0, r, 1, 4)),
            new Open("copies a", (d, r) -> d.copies(r, 2, 4)),
            new Open("copies a, 0", (d, r) -> d.copies(r, 0, 4)),
            new Open("set in a", (d, r) -> d.set(r, 0, 1, false, 4)),
            new Open("set in b", (d, r) -> d.set(0, r, 1, false, 4)),
            new Open("set over a", (d, r) -> d.set(r, 0, 1, true, 4)),
            new Open("set over b", (d, r) -> d.set(0, r, 1, true, 4)),
            new Open("change a", (d, r) -> d.change(r, 0, 1, 4)),
            new Open("change b", (d, r) -> d.change(1, r, 0, 4)),
            new Open("change c", (d, r) -> d.change(1, 0, r, 4)),
            new Open("change c, of none", (d, r) -> d.change(3, 0, r, 4)),
            new Open("strip a", (d, r) -> d.strip(r, 0, 4)),
            new Open("turn 0 a", (d, r) -> d.turn(0, r, 4)),
            new Open("turn 1 a", (d, r) -> d.turn(1, r, 4)),
            new Open("turn 2 a", (d, r) -> d.turn(2, r, 4)),
            new Open("turn 3 a", (d, r) -> d.turn(3, r, 4)),
            new Open("turn 4 a", (d, r) -> d.turn(4, r, 4)),
            new Open("translate a", (d, r) -> d.translate(r, 0, 1, 4)),
            new Open("translate b", (d, r) -> d.translate(0, r, 1, 4)),
            new Open("translate c", (d, r) -> d.translate(0, 1, r, 4)),
            new Open("translate c, of none", (d, r) -> d.translate(3, 1, r, 4)),
            new Open("space a", (d, r) -> d.space(r, 1, 4)),
            new Open("some a", (d, r) -> d.some(r, 1, 1, false, 4)),
            new Open("without a", (d, r) -> d.some(r, 1, 1, true, 4)),
            new Open("order 0 a", (d, r) -> d.order(r, 0, 4)),
            new Open("order 1 a", (d, r) -> d.order(r, 1, 4)));
    }

    private static List<Open> openRegistersMadeTo() {
        return List.of(
            new Open("fill 0 to", (d, to) -> d.fill(0, 0, 3, to)),
            new Open("fill 1 to", (d, to) -> d.fill(1, 0, 3, to)),
            new Open("fill 2 to", (d, to) -> d.fill(2, 0, 3, to)),
            new Open("part to", (d, to) -> d.part(0, 1, 1, to)),
            new Open("cut to", (d, to) -> d.cut(0, 1, 1, to)),
            new Open("join to", (d, to) -> d.join(0, 0, 1, to)),
            new Open("copies to", (d, to) -> d.copies(0, 2, to)),
            new Open("set in to", (d, to) -> d.set(0, 0, 1, false, to)),
            new Open("set over to", (d, to) -> d.set(0, 0, 1, true, to)),
            new Open("change to", (d, to) -> d.change(1, 0, 2, to)),
            new Open("strip to", (d, to) -> d.strip(2, 0, to)),
            new Open("turn 0 to", (d, to) -> d.turn(0, 0, to)),
            new Open("turn 1 to", (d, to) -> d.turn(1, 0, to)),
            new Open("turn 2 to", (d, to) -> d.turn(2, 0, to)),
            new Open("turn 3 to", (d, to) -> d.turn(3, 0, to)),
            new Open("turn 4 to", (d, to) -> d.turn(4, 0, to)),
            new Open("translate to", (d, to) -> d.translate(0, 2, 1, to)),
            new Open("space to", (d, to) -> d.space(0, 1, to)),
            new Open("some to", (d, to) -> d.some(0, 1, 1, false, to)),
            new Open("without to", (d, to) -> d.some(0, 1, 1, true, to)),
            new Open("order 0 to", (d, to) -> d.order(0, 0, to)),
            new Open("order 1 to", (d, to) -> d.order(0, 1, to)));
    }

    private static void noSuchNumber() {
        Bench.sentence("Terms", "or a number that is none of those told, is NONE: nothing changes");
        Bench b = new Bench('-', "a b", "b", "--c-", "");
        int[] below0 = Bench.BELOW_0;
        int[] below1 = Bench.BELOW_1;
        int[] belowNone = Bench.BELOW_NONE;
        b.answersEach(below0, "fill n", (d, n) -> d.fill(0, 0, n, 4), NONE);
        b.answersEach(below1, "part k", (d, k) -> d.part(0, k, 1, 4), NONE);
        b.answersEach(belowNone, "part n", (d, n) -> d.part(0, 1, n, 4), NONE);
        b.answersEach(below1, "cut k", (d, k) -> d.cut(0, k, 1, 4), NONE);
        b.answersEach(belowNone, "cut n", (d, n) -> d.cut(0, 1, n, 4), NONE);
        b.answersEach(below0, "join w", (d, w) -> d.join(0, 0, w, 4), NONE);
        b.answersEach(below0, "copies n", (d, n) -> d.copies(0, n, 4), NONE);
        b.answersEach(below0, "set in n", (d, n) -> d.set(0, 0, n, false, 4), NONE);
        b.answersEach(below0, "set over n", (d, n) -> d.set(0, 0, n, true, 4), NONE);
        b.answersEach(below1, "find k", (d, k) -> d.find(1, 0, k, false), NONE);
        b.answersEach(belowNone, "find k, last", (d, k) -> d.find(1, 0, k, true), NONE);
        b.answersEach(new int[] {0}, "find k, last", (d, k) -> d.find(1, 0, k, true), NONE);
        b.answersEach(below1, "verify k", (d, k) -> d.verify(0, 1, k, false), NONE);
        b.answersEach(below0, "space n", (d, n) -> d.space(0, n, 4), NONE);
        b.answersEach(below1, "word k", (d, k) -> d.word(0, k, 0), NONE);
        b.answersEach(below1, "some k", (d, k) -> d.some(0, k, 1, false, 4), NONE);
        b.answersEach(belowNone, "some n", (d, n) -> d.some(0, 1, n, false, 4), NONE);
        b.answersEach(below1, "place k", (d, k) -> d.place(1, 0, k), NONE);
        noSuchChoice(b, 2, "fill way", (d, way) -> d.fill(way, 0, 4, 4));
        noSuchChoice(b, 2, "strip ends", (d, ends) -> d.strip(2, ends, 4));
        noSuchChoice(b, 4, "turn how", (d, how) -> d.turn(how, 0, 4));
        noSuchChoice(b, 1, "word what", (d, what) -> d.word(0, 1, what));
        noSuchChoice(b, 1, "order how", (d, how) -> d.order(0, how, 4));
    }

    /** Of the numbers from 0 up to `most`, each is told; those around and far from them are not. */
    private static void noSuchChoice(Bench b, int most, String name, Bench.NumberCall call) {
        b.answersEach(Bench.BELOW_0, name, call, NONE);
        b.answersEach(new int[] {most + 1, most + 2}, name, call, NONE);
        b.answersEach(Bench.ABOVE_200, name, call, NONE);
    }

    private static void registerAheadOfFull() {
        Bench.sentence("Terms, a REGISTER", "it is looked at ahead of FULL");
        Bench b = new Bench('-', MOST, "a", "bb", "a b").withTape(MOST + "c");
        List<Open> all = List.of(
            new Open("put", (d, r) -> d.put(r)),
            new Open("fill a", (d, r) -> d.fill(0, r, 201, 4)),
            new Open("fill to", (d, r) -> d.fill(1, 0, 201, r)),
            new Open("part a", (d, r) -> d.part(r, 1, 201, 4)),
            new Open("part to", (d, r) -> d.part(0, 1, 201, r)),
            new Open("join a", (d, r) -> d.join(r, 0, 1, 4)),
            new Open("join b", (d, r) -> d.join(0, r, 1, 4)),
            new Open("join to", (d, r) -> d.join(0, 0, 1, r)),
            new Open("copies a", (d, r) -> d.copies(r, 201, 4)),
            new Open("copies to", (d, r) -> d.copies(0, 2, r)),
            new Open("set in a", (d, r) -> d.set(r, 0, 201, false, 4)),
            new Open("set in b", (d, r) -> d.set(0, r, 201, false, 4)),
            new Open("set in to", (d, r) -> d.set(0, 0, 201, false, r)),
            new Open("set over a", (d, r) -> d.set(r, 0, 201, true, 4)),
            new Open("set over b", (d, r) -> d.set(0, r, 201, true, 4)),
            new Open("set over to", (d, r) -> d.set(0, 0, 201, true, r)),
            new Open("change to", (d, r) -> d.change(1, 0, 2, r)),
            new Open("space to", (d, r) -> d.space(3, 200, r)));
        for (Open open : all) {
            b.answersEach(Bench.NO_REGISTERS, open.name, open.call, NONE);
        }
    }

    private static void numberAheadOfFull() {
        Bench.sentence("Terms, a number", "it is looked at ahead of FULL");
        Bench b = new Bench('-', MOST, "a", "bb", "a b");
        for (int n : Bench.ABOVE_200) {
            noSuchChoice(b, 2, "fill to " + n + ", way", (d, way) -> d.fill(way, 0, n, 4));
            b.answersEach(Bench.BELOW_1, "part " + n + " from", (d, k) -> d.part(0, k, n, 4), NONE);
        }
        b.answersEach(Bench.BELOW_0, "join of 400", (d, w) -> d.join(0, 0, w, 4), NONE);
        b.answersEach(Bench.BELOW_0, "set of 400", (d, n) -> d.set(0, 0, n, false, 4), NONE);
    }

    private static void call512() {
        Bench.sentence("What it is", "An object is used for at most 512 calls after it has been made");
        RowDesk desk = new RowDesk();
        Bench.due("feed", desk.feed(0x61622063, 0, 0, 0, 0), 20);
        Bench.due("end", desk.end(4), 4);
        Bench.due("put", desk.put(0), 4);
        for (int call = 4; call <= 510; call++) {
            Bench.due("call " + call, desk.order(0, 0, 0), 4);
        }
        // Turned 507 times, an odd number, "ab c" is "c ab".
        Bench.due("call 511", desk.word(0, 2, 0), 3);
        Bench.due("call 512", desk.word(0, 2, 1), 2);
    }

    /** 200 bytes, each one higher than the one ahead of it. */
    private static String bytesFrom(int from) {
        StringBuilder bytes = new StringBuilder();
        for (int i = 0; i < 200; i++) {
            bytes.append((char) (from + i));
        }
        return bytes.toString();
    }
}
