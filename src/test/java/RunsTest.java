/**
 * Runs in which each call works on what the calls ahead of it left: a register that is worked on and
 * made anew, a pad that was changed, a tape that was cut, put and fed again.
 */
public final class RunsTest {
    private static final int NONE = Bench.NONE;
    private static final int FULL = Bench.FULL;

    private final RowDesk desk = new RowDesk();

    public static void main(String[] args) {
        new RunsTest().oneRegisterOfBytes();
        new RunsTest().oneRegisterOfWords();
        new RunsTest().changedPad();
        new RunsTest().changedPadAndWords();
        new RunsTest().tapeFedAgain();
        new RunsTest().fullTapeFedAgain();
        new RunsTest().madeAfterNoneAndFull();
        Bench.close();
    }

    private void made(String call, int answer, int r, String want) {
        Bench.due(call, answer, want.length());
        Bench.dueRow(call, desk, r, want);
    }

    private void answered(String call, int answer, int want) {
        Bench.due(call, answer, want);
    }

    private void oneRegisterOfBytes() {
        Bench.sentence("A run on one register, of bytes", "REGISTER to (that may be one it works on)");
        Bench.load(desk, 0, "Ab ab");
        answered("pad", desk.pad('-'), 32);
        made("fill behind", desk.fill(0, 0, 7, 0), 0, "Ab ab--");
        made("fill ahead", desk.fill(1, 0, 8, 0), 0, "-Ab ab--");
        made("fill on both sides", desk.fill(2, 0, 11, 0), 0, "--Ab ab----");
        made("cut on both sides", desk.fill(2, 0, 8, 0), 0, "-Ab ab--");
        made("strip the begin", desk.strip(0, 1, 0), 0, "Ab ab--");
        made("part", desk.part(0, 4, 5, 0), 0, "ab---");
        made("cut", desk.cut(0, 4, 1, 0), 0, "ab--");
        made("join", desk.join(0, 0, 1, 0), 0, "ab---ab--");
        made("strip the end", desk.strip(0, 2, 0), 0, "ab---ab");
        made("change", desk.change(0, 0, 0, 0), 0, "ab---ab");
        made("set in", desk.set(0, 0, 2, false, 0), 0, "abab---ab---ab");
        made("turn about", desk.turn(0, 0, 0), 0, "ba---ba---baba");
        made("turn to capitals", desk.turn(1, 0, 0), 0, "BA---BA---BABA");
        made("each byte once", desk.turn(4, 0, 0), 0, "BA-");
        made("copies", desk.copies(0, 3, 0), 0, "BA-BA-BA-");
        made("set over", desk.set(0, 0, 1, true, 0), 0, "BBA-BA-BA-");
        made("turn to small letters", desk.turn(2, 0, 0), 0, "bba-ba-ba-");
        made("bytes in order", desk.turn(3, 0, 0), 0, "---aaabbbb");
        made("translate", desk.translate(0, 0, 0, 0), 0, "---aaabbbb");
        answered("find", desk.find(0, 0, 1, false), 1);
        answered("find, last", desk.find(0, 0, NONE, true), 1);
        answered("often", desk.often(0, 0), 1);
        answered("unlike", desk.unlike(0, 0), 0);
        answered("verify", desk.verify(0, 0, 4, false), 4);
        answered("verify, other", desk.verify(0, 0, 1, true), 0);
        made("cut all behind", desk.cut(0, 6, NONE, 0), 0, "---aa");
        made("part up to the end", desk.part(0, 3, NONE, 0), 0, "-aa");
        made("no copies", desk.copies(0, 0, 0), 0, "");
        made("set over none", desk.set(0, 0, 2, true, 0), 0, "--");
        made("strip all", desk.strip(0, 0, 0), 0, "");
    }

    private void oneRegisterOfWords() {
        Bench.sentence("A run on one register, of words", "REGISTER to (that may be one it works on)");
        Bench.load(desk, 4, " two  one t three ");
        answered("words", desk.words(4), 4);
        made("order by bytes", desk.order(4, 1, 4), 4, " one  t three two ");
        made("order, last first", desk.order(4, 0, 4), 4, " two  three t one ");
        answered("word", desk.word(4, 2, 0), 7);
        answered("word", desk.word(4, 2, 1), 5);
        made("without the third", desk.some(4, 3, 1, true, 4), 4, " two  three one ");
        answered("place", desk.place(4, 4, 1), 1);
        made("the first two", desk.some(4, 1, 2, false, 4), 4, "two  three");
        made("join", desk.join(4, 4, 3, 4), 4, "two  three   two  three");
        answered("words", desk.words(4), 4);
        answered("place behind the first", desk.place(4, 4, 2), 0);
        made("space", desk.space(4, 1, 4), 4, "two three two three");
        made("without all behind the first", desk.some(4, 2, NONE, true, 4), 4, "two ");
        made("space of one word", desk.space(4, 9, 4), 4, "two");
        made("none of the words", desk.some(4, 2, 1, false, 4), 4, "");
        answered("words of none", desk.words(4), 0);
        made("order of none", desk.order(4, 1, 4), 4, "");
    }

    private void changedPad() {
        Bench.sentence("A run with a changed pad", "THE PAD is p");
        Bench.load(desk, 0, "a");
        Bench.load(desk, 1, "a--");
        Bench.load(desk, 2, "a  ");
        answered("unlike, blanks", desk.unlike(0, 2), 0);
        answered("unlike, others", desk.unlike(0, 1), 2);
        answered("pad", desk.pad('-'), 32);
        answered("unlike, blanks", desk.unlike(0, 2), 2);
        answered("unlike, others", desk.unlike(0, 1), 0);
        made("strip", desk.strip(1, 0, 3), 3, "a");
        made("strip of blanks", desk.strip(2, 0, 4), 4, "a  ");
        answered("pad", desk.pad('a'), '-');
        made("strip of the begin", desk.strip(1, 1, 3), 3, "--");
        made("strip of all", desk.strip(0, 0, 4), 4, "");
        answered("pad that is none", desk.pad(256), NONE);
        made("fill", desk.fill(0, 0, 3, 5), 5, "aaa");
        answered("pad", desk.pad('.'), 'a');
        made("fill further", desk.fill(2, 5, 6, 5), 5, ".aaa..");
        made("part", desk.part(0, 1, 3, 6), 6, "a..");
        answered("pad", desk.pad(0), '.');
        made("join", desk.join(6, 0, 2, 6), 6, "a..\0\0a");
        answered("pad", desk.pad(255), 0);
        made("set in", desk.set(0, 6, 7, false, 6), 6, "a..\0\0a\377a");
        answered("pad", desk.pad('x'), 255);
        made("set over", desk.set(0, 6, 9, true, 6), 6, "a..\0\0a\377axa");
        made("translate", desk.translate(6, 4, 0, 7), 7, "x..\0\0x\377xxx");
        Bench.dueRow("all pads since", desk, 5, ".aaa..");
        answered("pad", desk.pad(32), 'x');
    }

    private void changedPadAndWords() {
        Bench.sentence("A run with a changed pad", "BLANKS are bytes 32");
        Bench.load(desk, 0, "one two");
        answered("pad", desk.pad('-'), 32);
        answered("words", desk.words(0), 2);
        made("space", desk.space(0, 2, 1), 1, "one--two");
        answered("words with pads between", desk.words(1), 1);
        made("space of one word", desk.space(1, 2, 1), 1, "one--two");
        made("fill", desk.fill(2, 0, 11, 2), 2, "--one two--");
        answered("word", desk.word(2, 1, 1), 5);
        made("order", desk.order(2, 0, 2), 2, "two-- --one");
        made("some", desk.some(2, 2, 1, false, 3), 3, "--one");
        made("without", desk.some(2, 1, 1, true, 4), 4, "--one");
        answered("place", desk.place(3, 2, 1), 2);
        answered("place of what has no pads", desk.place(0, 2, 1), 0);
        answered("pad", desk.pad(32), '-');
        made("space with blanks again", desk.space(2, 3, 2), 2, "two--   --one");
        answered("words", desk.words(2), 2);
    }

    private void tapeFedAgain() {
        Bench.sentence("A run with a tape fed again", "THE TAPE has its first n bytes alone");
        answered("feed", desk.feed(0x61626364, 0x65666768, 0x696a6b6c, 0x6d6e6f70, 0x71727374), 20);
        answered("end", desk.end(5), 5);
        answered("end behind the end", desk.end(6), NONE);
        answered("feed again", desk.feed(0x41424344, 0, 0, 0, 0), 25);
        answered("end", desk.end(8), 8);
        answered("put into none", desk.put(10), NONE);
        made("put", desk.put(3), 3, "abcdeABC");
        answered("end of an empty tape", desk.end(1), NONE);
        answered("end of an empty tape", desk.end(0), 0);
        answered("feed", desk.feed(0x7879007a, 0, 0, 0, 0), 20);
        Bench.dueRow("a feed", desk, 3, "abcdeABC");
        answered("end", desk.end(4), 4);
        made("put over a longer row", desk.put(3), 3, "xy\0z");
        made("put of none", desk.put(3), 3, "");
    }

    private void fullTapeFedAgain() {
        Bench.sentence("A run with a tape fed again", "FULL (above 200): THE TAPE stays");
        Bench.feedText(desk, 0, "ab".repeat(120));
        answered("feed to a full tape", desk.feed(1, 2, 3, 4, 5), FULL);
        answered("put", desk.put(0), FULL);
        answered("end", desk.end(201), 201);
        answered("put", desk.put(0), FULL);
        answered("end", desk.end(199), 199);
        answered("feed", desk.feed(0x7a000000, 0, 0, 0, 0), 219);
        answered("end", desk.end(200), 200);
        made("put", desk.put(0), 0, "ab".repeat(99) + "az");
        answered("feed", desk.feed(0x63000000, 0, 0, 0, 0), 20);
        answered("end", desk.end(1), 1);
        made("put over a row of 200", desk.put(0), 0, "c");
    }

    private void madeAfterNoneAndFull() {
        Bench.sentence("A run with calls that make nothing", "NONE: nothing changes ... FULL: nothing changes");
        Bench.load(desk, 0, "a b");
        Bench.load(desk, 1, "x".repeat(150));
        answered("pad", desk.pad('-'), 32);
        answered("copies", desk.copies(1, 2, 0), FULL);
        made("fill", desk.fill(1, 0, 5, 0), 0, "--a b");
        answered("join", desk.join(1, 1, 0, 0), FULL);
        answered("turn", desk.turn(5, 0, 0), NONE);
        made("order", desk.order(0, 0, 0), 0, "b --a");
        answered("space", desk.space(0, 197, 0), FULL);
        answered("order", desk.order(0, 2, 0), NONE);
        made("space", desk.space(0, 1, 0), 0, "b---a");
        answered("set", desk.set(1, 0, 51, true, 0), FULL);
        answered("pad", desk.pad(-1), NONE);
        made("set", desk.set(0, 0, 6, false, 0), 0, "b---a-b---a");
        answered("change", desk.change(0, 1, 0, 10), NONE);
        made("strip", desk.strip(0, 0, 0), 0, "b---a-b---a");
        answered("size of what was worked on", desk.size(1), 150);
    }
}
