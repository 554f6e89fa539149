/** Promises 22 to 27: words spaced, counted, told, taken, left out, ordered and looked for. */
public final class WordsTest {
    private static final int NONE = Bench.NONE;
    private static final int FULL = Bench.FULL;
    private static final int GREATEST = Bench.GREATEST;
    private static final int LEAST = Bench.LEAST;
    private static final String MANY = "x ".repeat(100);

    public static void main(String[] args) {
        space();
        words();
        word();
        some();
        someLeftOut();
        order();
        place();
        Bench.close();
    }

    private static void space() {
        Bench blank = new Bench(32, "  one two   three ");
        blank.made("space 1", d -> d.space(0, 1, 7), 7, "one two three");
        Bench b = new Bench('-', "  one two   three ", "   ", "", " alone ", "old", MANY, "a-b\tc d");
        b.made("space 2, other pad", d -> d.space(0, 2, 7), 7, "one--two--three");
        b.made("space 0", d -> d.space(0, 0, 7), 7, "onetwothree");
        b.made("space, pads are in words", d -> d.space(6, 2, 7), 7, "a-b\tc--d");
        b.made("space of blanks", d -> d.space(1, 3, 7), 7, "");
        b.made("space of none", d -> d.space(2, GREATEST, 7), 7, "");
        b.made("space of one", d -> d.space(3, GREATEST, 7), 7, "alone");
        b.made("space of 100", d -> d.space(5, 1, 7), 7, "x-".repeat(99) + "x");
        b.made("space to 199", d -> d.space(0, 94, 7), 7,
                "one" + "-".repeat(94) + "two" + "-".repeat(94) + "three");
        b.answers("space to 201", d -> d.space(0, 95, 4), FULL);
        b.answers("space of 100, 2", d -> d.space(5, 2, 4), FULL);
        b.answers("space greatest", d -> d.space(0, GREATEST, 4), FULL);
        b.answers("space -1", d -> d.space(0, -1, 4), NONE);
        b.answers("space -1 of none", d -> d.space(2, -1, 4), NONE);
        b.answers("space, no register a", d -> d.space(10, 95, 4), NONE);
        b.answers("space, no register to", d -> d.space(0, 95, -1), NONE);
        b.made("space itself", d -> d.space(0, 1, 0), 0, "one-two-three");
        Bench edge = new Bench(32, "ab cd", "abc cd");
        edge.made("space to 200", d -> d.space(0, 196, 2), 2, "ab" + " ".repeat(196) + "cd");
        edge.answers("space to 201", d -> d.space(1, 196, 1), FULL);
    }

    private static void words() {
        Bench b = new Bench(32, "", " ", "a", " a", "a ", "a b", "  a\t\nb  c\0 ", MANY, "\240 \377",
                "x".repeat(200));
        int[] counts = {0, 0, 1, 1, 1, 2, 2, 100, 2, 1};
        for (int r : new int[] {0, 1, 2, 3, 4, 5, 6, 7, 8, 9}) {
            b.answers("words(" + r + ")", d -> d.words(r), counts[r]);
        }
        new Bench('-', "a-b c").answers("words, the pad is no blank", d -> d.words(0), 2);
        b.answers("words(-1)", d -> d.words(-1), NONE);
        b.answers("words(10)", d -> d.words(10), NONE);
    }

    private static void word() {
        Bench b = new Bench(32, "  one two   three ", "", "last", MANY);
        int[] places = {0, 3, 7, 13, 0};
        int[] sizes = {0, 3, 3, 5, 0};
        for (int k : new int[] {1, 2, 3, 4}) {
            b.answers("word place " + k, d -> d.word(0, k, 0), places[k]);
            b.answers("word size " + k, d -> d.word(0, k, 1), sizes[k]);
        }
        b.answers("word of none", d -> d.word(1, 1, 0), 0);
        b.answers("word size of none", d -> d.word(1, 1, 1), 0);
        b.answers("word at the end", d -> d.word(2, 1, 0), 1);
        b.answers("word size at the end", d -> d.word(2, 1, 1), 4);
        b.answers("word 100", d -> d.word(3, 100, 0), 199);
        b.answers("word 101", d -> d.word(3, 101, 0), 0);
        b.answers("word greatest", d -> d.word(0, GREATEST, 1), 0);
        b.answers("word 0", d -> d.word(0, 0, 0), NONE);
        b.answers("word least", d -> d.word(0, LEAST, 0), NONE);
        b.answers("word what 2", d -> d.word(0, 1, 2), NONE);
        b.answers("word what -1", d -> d.word(0, 1, -1), NONE);
        b.answers("word 9, what 2", d -> d.word(0, 9, 2), NONE);
        b.answers("word, no register", d -> d.word(10, 1, 0), NONE);
        b.answers("word, no register", d -> d.word(-1, 1, 1), NONE);
    }

    private static void some() {
        Bench b = new Bench('-', "  one two   three ", "", "   ", "old", "-one- -two-");
        b.made("some 1, 1", d -> d.some(0, 1, 1, false, 5), 5, "one");
        b.made("some 1, 2", d -> d.some(0, 1, 2, false, 5), 5, "one two");
        b.made("some 2, 2", d -> d.some(0, 2, 2, false, 5), 5, "two   three");
        b.made("some 2, 9", d -> d.some(0, 2, 9, false, 5), 5, "two   three");
        b.made("some 2, greatest", d -> d.some(0, 2, GREATEST, false, 5), 5, "two   three");
        b.made("some 1, NONE", d -> d.some(0, 1, NONE, false, 5), 5, "one two   three");
        b.made("some 3, NONE", d -> d.some(0, 3, NONE, false, 5), 5, "three");
        b.made("some 4, NONE", d -> d.some(0, 4, NONE, false, 5), 5, "");
        b.made("some 4, 1", d -> d.some(0, 4, 1, false, 5), 5, "");
        b.made("some 2, 0", d -> d.some(0, 2, 0, false, 5), 5, "");
        b.made("some greatest, greatest", d -> d.some(0, GREATEST, GREATEST, false, 5), 5, "");
        b.made("some of none", d -> d.some(1, 1, NONE, false, 5), 5, "");
        b.made("some of blanks", d -> d.some(2, 1, NONE, false, 5), 5, "");
        b.made("some, pads stay", d -> d.some(4, 1, NONE, false, 5), 5, "-one- -two-");
        for (boolean without : new boolean[] {false, true}) {
            b.answers("some 0", d -> d.some(0, 0, 1, without, 3), NONE);
            b.answers("some least", d -> d.some(0, LEAST, 1, without, 3), NONE);
            b.answers("some 1, -2", d -> d.some(0, 1, -2, without, 3), NONE);
            b.answers("some, no register a", d -> d.some(10, 1, 1, without, 3), NONE);
            b.answers("some, no register to", d -> d.some(0, 1, 1, without, -1), NONE);
        }
        b.made("some of itself", d -> d.some(0, 2, NONE, false, 0), 0, "two   three");
    }

    private static void someLeftOut() {
        Bench b = new Bench('-', "  one two   three  ", "", "   ", "old", "a b");
        b.made("without 1, 1", d -> d.some(0, 1, 1, true, 5), 5, "  two   three  ");
        b.made("without 2, 1", d -> d.some(0, 2, 1, true, 5), 5, "  one three  ");
        b.made("without 1, 2", d -> d.some(0, 1, 2, true, 5), 5, "  three  ");
        b.made("without 3, 1", d -> d.some(0, 3, 1, true, 5), 5, "  one two   ");
        b.made("without 2, 9", d -> d.some(0, 2, 9, true, 5), 5, "  one ");
        b.made("without 2, greatest", d -> d.some(0, 2, GREATEST, true, 5), 5, "  one ");
        b.made("without 2, NONE", d -> d.some(0, 2, NONE, true, 5), 5, "  one ");
        b.made("without 1, NONE", d -> d.some(0, 1, NONE, true, 5), 5, "  ");
        b.made("without 4, NONE", d -> d.some(0, 4, NONE, true, 5), 5, "  one two   three  ");
        b.made("without 2, 0", d -> d.some(0, 2, 0, true, 5), 5, "  one two   three  ");
        b.made("without greatest", d -> d.some(0, GREATEST, GREATEST, true, 5), 5, "  one two   three  ");
        b.made("without of none", d -> d.some(1, 1, NONE, true, 5), 5, "");
        b.made("without of blanks", d -> d.some(2, 1, NONE, true, 5), 5, "   ");
        b.made("without the last", d -> d.some(4, 2, 1, true, 5), 5, "a ");
        b.made("without, itself", d -> d.some(0, 2, 1, true, 0), 0, "  one three  ");
    }

    private static void order() {
        Bench b = new Bench(32, "  b  ab a\377 a    a\200c aba ", "", "  ", " one ", "old", MANY,
                "z y x", "B a - \t");
        b.made("order, last first", d -> d.order(0, 0, 8), 8, "  aba  a\200c a a\377    ab b ");
        b.made("order by bytes", d -> d.order(0, 1, 8), 8, "  a  ab aba a\200c    a\377 b ");
        b.made("order by bytes, no blanks at the ends", d -> d.order(6, 1, 8), 8, "x y z");
        b.made("order by bytes, marks", d -> d.order(7, 1, 8), 8, "\t - B a");
        for (int how : new int[] {0, 1}) {
            b.made("order none", d -> d.order(1, how, 8), 8, "");
            b.made("order blanks", d -> d.order(2, how, 8), 8, "  ");
            b.made("order one", d -> d.order(3, how, 8), 8, " one ");
            b.made("order 100", d -> d.order(5, how, 8), 8, MANY);
            b.answers("order, no register a", d -> d.order(10, how, 4), NONE);
            b.answers("order, no register to", d -> d.order(0, how, -1), NONE);
        }
        b.answers("order 2", d -> d.order(0, 2, 4), NONE);
        b.answers("order -1", d -> d.order(0, -1, 4), NONE);
        b.made("order itself", d -> d.order(6, 0, 6), 6, "x y z");
    }

    private static void place() {
        Bench b = new Bench(32, "  be or  not be or be  ", "be", " or   be", "", "  ", "b", "bee", "not be or x",
                "be or not be or be be", "or be or");
        int[] be = {0, 1, 4, 4, 4, 6, 6, 0};
        for (int k : new int[] {1, 2, 3, 4, 5, 6, 7}) {
            b.answers("place be " + k, d -> d.place(1, 0, k), be[k]);
        }
        b.answers("place or be", d -> d.place(2, 0, 1), 5);
        b.answers("place or be 5", d -> d.place(2, 0, 5), 5);
        b.answers("place or be 6", d -> d.place(2, 0, 6), 0);
        b.answers("place of none", d -> d.place(3, 0, 1), 0);
        b.answers("place of blanks", d -> d.place(4, 0, 1), 0);
        b.answers("place in none", d -> d.place(1, 3, 1), 0);
        b.answers("place in blanks", d -> d.place(1, 4, 1), 0);
        b.answers("place of none in none", d -> d.place(3, 3, 1), 0);
        b.answers("place of a beginning", d -> d.place(5, 0, 1), 0);
        b.answers("place of a longer word", d -> d.place(6, 0, 1), 0);
        b.answers("place, the last word differs", d -> d.place(7, 0, 1), 0);
        b.answers("place of more words", d -> d.place(8, 0, 1), 0);
        b.answers("place of itself", d -> d.place(0, 0, 1), 1);
        b.answers("place with other blanks", d -> d.place(0, 8, 1), 1);
        b.answers("place beyond the end", d -> d.place(9, 0, 1), 0);
        b.answers("place greatest", d -> d.place(1, 0, GREATEST), 0);
        b.answers("place 0", d -> d.place(1, 0, 0), NONE);
        b.answers("place NONE", d -> d.place(1, 0, NONE), NONE);
        b.answers("place 0 of none", d -> d.place(3, 0, 0), NONE);
        b.answers("place least", d -> d.place(1, 0, LEAST), NONE);
        b.answers("place, no register a", d -> d.place(10, 0, 1), NONE);
        b.answers("place, no register b", d -> d.place(3, -1, 1), NONE);
    }
}
