/** Promises 22 to 27, sentence by sentence: words spaced, counted, told, taken, ordered, looked for. */
public final class WordsTest {
    private static final int NONE = Bench.NONE;
    private static final int FULL = Bench.FULL;
    private static final int LEAST = Bench.LEAST;
    private static final int GREATEST = Bench.GREATEST;
    private static final int[] ABOVE_200 = Bench.ABOVE_200;
    private static final String LONG = "x".repeat(200);
    private static final String BLANKS = " ".repeat(200);
    private static final String MANY = "x ".repeat(100);
    private static final String THREE = "  one two   three ";

    public static void main(String[] args) {
        space();
        spaceNumbers();
        spaceFull();
        words();
        wordsNone();
        wordPlace();
        wordSize();
        wordNoneSuch();
        wordNumbers();
        wordWhat();
        some();
        someAll();
        somePlaces();
        someNumbers();
        someWithout();
        someWithoutAll();
        someWithoutNoneOfThem();
        orderLastFirst();
        orderByBytes();
        orderABeginningAhead();
        orderAlike();
        orderBlanksStay();
        orderHow();
        place();
        placeBehind();
        placeOneBehindTheOther();
        placeNone();
        placeOfNoWords();
        placeNumbers();
        Bench.close();
    }

    private static void space() {
        Bench.sentence("Promise 22", "a's WORDS with n times THE PAD between");
        Bench b = new Bench('-', THREE, "   ", "", " alone ", MANY, "a-b\tc d", LONG);
        b.made("space 1", d -> d.space(0, 1, 7), 7, "one-two-three");
        b.made("space 2", d -> d.space(0, 2, 7), 7, "one--two--three");
        b.made("space, pads in words stay", d -> d.space(5, 2, 7), 7, "a-b\tc--d");
        b.made("space of blanks", d -> d.space(1, 3, 7), 7, "");
        b.made("space of none", d -> d.space(2, 3, 7), 7, "");
        b.made("space of one", d -> d.space(3, 3, 7), 7, "alone");
        b.made("space of 100", d -> d.space(4, 1, 7), 7, "x-".repeat(99) + "x");
        b.made("space of one of 200", d -> d.space(6, 1, 7), 7, LONG);
        b.made("space itself", d -> d.space(0, 1, 0), 0, "one-two-three");
        Bench blank = new Bench(32, THREE);
        blank.made("space by blanks", d -> d.space(0, 1, 7), 7, "one two three");
    }

    private static void spaceNumbers() {
        Bench.sentence("Promise 22", "0 or more");
        Bench b = new Bench('-', THREE, "   ", "", " alone ", "old", MANY, "a b c d e", LONG);
        b.made("space 0", d -> d.space(0, 0, 8), 8, "onetwothree");
        b.made("space 0 of 100", d -> d.space(5, 0, 8), 8, "x".repeat(100));
        b.made("space 0 of none", d -> d.space(2, 0, 8), 8, "");
        b.madeEach(ABOVE_200, "space of blanks", (d, n) -> d.space(1, n, 8), 8, "");
        b.madeEach(ABOVE_200, "space of none", (d, n) -> d.space(2, n, 8), 8, "");
        b.madeEach(ABOVE_200, "space of one", (d, n) -> d.space(3, n, 8), 8, "alone");
        b.madeEach(ABOVE_200, "space of one of 200", (d, n) -> d.space(7, n, 8), 8, LONG);
        for (int a : new int[] {0, 5, 6}) {
            b.answersEach(ABOVE_200, "space of " + a, (d, n) -> d.space(a, n, 4), FULL);
        }
        for (int a : new int[] {0, 1, 2, 3, 5}) {
            b.answersEach(Bench.BELOW_0, "space of " + a, (d, n) -> d.space(a, n, 4), NONE);
        }
    }

    private static void spaceFull() {
        Bench.sentence("Promise 22", "What would have more than 200 is FULL");
        Bench b = new Bench('-', THREE, MANY, "ab cd", "abc cd", "old", "x".repeat(198) + " y");
        b.made("space to 199", d -> d.space(0, 94, 7), 7,
                "one" + "-".repeat(94) + "two" + "-".repeat(94) + "three");
        b.made("space to 200", d -> d.space(2, 196, 7), 7, "ab" + "-".repeat(196) + "cd");
        b.made("space of 200 to 200", d -> d.space(5, 1, 7), 7, "x".repeat(198) + "-y");
        b.answers("space to 201", d -> d.space(0, 95, 4), FULL);
        b.answers("space two to 201", d -> d.space(3, 196, 4), FULL);
        b.answers("space of 200 to 201", d -> d.space(5, 2, 4), FULL);
        b.answers("space of 100 to 298", d -> d.space(1, 2, 4), FULL);
    }

    private static void words() {
        Bench.sentence("Promise 23", "How many WORDS a has");
        Bench b = new Bench('-', "", " ", "a", " a", "a ", "a b", "  a\t\nb  c\0 ", MANY, "\240 \377-a", LONG);
        int[] counts = {0, 0, 1, 1, 1, 2, 2, 100, 2, 1};
        b.answersInTurn(counts, 0, "words", (d, r) -> d.words(r));
        Bench blanks = new Bench(32, BLANKS, " x".repeat(100), "- -", "a" + BLANKS.substring(2) + "b");
        int[] others = {0, 100, 2, 2};
        blanks.answersInTurn(others, 0, "words", (d, r) -> d.words(r));
    }

    private static void wordsNone() {
        Bench.sentence("Promise 23", "NONE");
        new Bench(32, "row").answersEach(Bench.NO_REGISTERS, "words", (d, r) -> d.words(r), NONE);
    }

    private static void wordPlace() {
        Bench.sentence("Promise 24", "what 0: its place");
        Bench b = new Bench('-', THREE, "last", MANY, " x".repeat(100));
        int[] places = {0, 3, 7, 13};
        b.answersInTurn(places, 1, "place of word", (d, k) -> d.word(0, k, 0));
        b.answers("place of the only word", d -> d.word(1, 1, 0), 1);
        b.answers("place of word 100", d -> d.word(2, 100, 0), 199);
        b.answers("place of word 100 at the end", d -> d.word(3, 100, 0), 200);
    }

    private static void wordSize() {
        Bench.sentence("Promise 24", "1: how many bytes it has");
        Bench b = new Bench('-', THREE, "last", MANY, " x".repeat(100), LONG);
        int[] sizes = {0, 3, 3, 5};
        b.answersInTurn(sizes, 1, "size of word", (d, k) -> d.word(0, k, 1));
        b.answers("size of the only word", d -> d.word(1, 1, 1), 4);
        b.answers("size of word 100", d -> d.word(2, 100, 1), 1);
        b.answers("size of word 100 at the end", d -> d.word(3, 100, 1), 1);
        b.answers("size of 200", d -> d.word(4, 1, 1), 200);
    }

    private static void wordNoneSuch() {
        Bench.sentence("Promise 24", "0 if there is none such");
        Bench b = new Bench('-', THREE, "", "   ", MANY, "last");
        for (int what : new int[] {0, 1}) {
            b.answers("word 4 of 3", d -> d.word(0, 4, what), 0);
            b.answers("word 1 of none", d -> d.word(1, 1, what), 0);
            b.answers("word 1 of blanks", d -> d.word(2, 1, what), 0);
            b.answers("word 101 of 100", d -> d.word(3, 101, what), 0);
            b.answers("word 2 of 1", d -> d.word(4, 2, what), 0);
            for (int a : new int[] {0, 1, 3}) {
                b.answersEach(ABOVE_200, "word", (d, k) -> d.word(a, k, what), 0);
            }
        }
        RowDesk desk = new RowDesk();
        Bench.load(desk, 0, "one two three");
        Bench.load(desk, 1, "one");
        Bench.due("word 3 of three", desk.word(0, 3, 0), 9);
        Bench.due("word 3 of one then", desk.word(1, 3, 0), 0);
    }

    private static void wordNumbers() {
        Bench.sentence("Promise 24", "k-th WORD (1 or more)");
        Bench b = new Bench('-', THREE, "", "   ", MANY);
        for (int what : new int[] {0, 1, 2}) {
            for (int a : new int[] {0, 1, 2, 3}) {
                b.answersEach(Bench.BELOW_1, "word", (d, k) -> d.word(a, k, what), NONE);
            }
        }
    }

    private static void wordWhat() {
        Bench.sentence("Promise 24, another what", "a number that is none of those told, is NONE");
        Bench b = new Bench('-', THREE, "");
        int[] wrongWhats = {-1, -2, 2, 3, 256, LEAST, GREATEST};
        for (int k : new int[] {1, 3, 4, GREATEST}) {
            b.answersEach(wrongWhats, "word " + k + ", what", (d, what) -> d.word(0, k, what), NONE);
            b.answersEach(wrongWhats, "word of none, what", (d, what) -> d.word(1, k, what), NONE);
        }
    }

    private static void some() {
        Bench.sentence("Promise 25", "a's n WORDS from the k-th on, as they stand, without BLANKS at the ends");
        Bench b = new Bench('-', THREE, "-one-  -two-", MANY, LONG, "one two");
        b.made("some 1, 1", d -> d.some(0, 1, 1, false, 5), 5, "one");
        b.made("some 1, 2", d -> d.some(0, 1, 2, false, 5), 5, "one two");
        b.made("some 1, 3", d -> d.some(0, 1, 3, false, 5), 5, "one two   three");
        b.made("some 2, 2", d -> d.some(0, 2, 2, false, 5), 5, "two   three");
        b.made("some 3, 1", d -> d.some(0, 3, 1, false, 5), 5, "three");
        b.made("some, pads stay", d -> d.some(1, 1, 2, false, 5), 5, "-one-  -two-");
        b.made("some of 100", d -> d.some(2, 1, 100, false, 5), 5, MANY.substring(0, 199));
        b.made("some 100, 1", d -> d.some(2, 100, 1, false, 5), 5, "x");
        b.made("some of 200", d -> d.some(3, 1, 1, false, 5), 5, LONG);
        b.made("some of no blanks at the ends", d -> d.some(4, 1, 2, false, 5), 5, "one two");
        b.made("some of itself", d -> d.some(0, 2, 2, false, 0), 0, "two   three");
    }

    private static void someAll() {
        Bench.sentence("Promise 25", "all if n is NONE");
        Bench b = new Bench('-', THREE, "", "   ", MANY);
        b.made("some 1, NONE", d -> d.some(0, 1, NONE, false, 5), 5, "one two   three");
        b.made("some 2, NONE", d -> d.some(0, 2, NONE, false, 5), 5, "two   three");
        b.made("some 3, NONE", d -> d.some(0, 3, NONE, false, 5), 5, "three");
        b.made("some 4, NONE", d -> d.some(0, 4, NONE, false, 5), 5, "");
        b.made("some of none, NONE", d -> d.some(1, 1, NONE, false, 5), 5, "");
        b.made("some of blanks, NONE", d -> d.some(2, 1, NONE, false, 5), 5, "");
        b.made("some of 100, NONE", d -> d.some(3, 1, NONE, false, 5), 5, MANY.substring(0, 199));
    }

    private static void somePlaces() {
        Bench.sentence("Promise 25", "k 1 or more");
        Bench b = new Bench('-', THREE, "", "   ", "old");
        for (int n : new int[] {NONE, 0, 1, 3, GREATEST}) {
            b.made("some " + n + " from 4", d -> d.some(0, 4, n, false, 5), 5, "");
            b.madeEach(ABOVE_200, "some " + n + " from", (d, k) -> d.some(0, k, n, false, 5), 5, "");
            b.madeEach(ABOVE_200, "without " + n + " from", (d, k) -> d.some(0, k, n, true, 5), 5, THREE);
            for (int a : new int[] {0, 1, 2}) {
                b.answersEach(Bench.BELOW_1, "some from", (d, k) -> d.some(a, k, n, false, 3), NONE);
                b.answersEach(Bench.BELOW_1, "without from", (d, k) -> d.some(a, k, n, true, 3), NONE);
            }
        }
    }

    private static void someNumbers() {
        Bench.sentence("Promise 25", "n NONE or more");
        Bench b = new Bench('-', THREE, "", "   ", "old");
        b.made("some 2, 0", d -> d.some(0, 2, 0, false, 5), 5, "");
        b.made("some 2, 4", d -> d.some(0, 2, 4, false, 5), 5, "two   three");
        b.madeEach(ABOVE_200, "some 2,", (d, n) -> d.some(0, 2, n, false, 5), 5, "two   three");
        b.madeEach(ABOVE_200, "some 3,", (d, n) -> d.some(0, 3, n, false, 5), 5, "three");
        b.madeEach(ABOVE_200, "without 2,", (d, n) -> d.some(0, 2, n, true, 5), 5, "  one ");
        b.madeEach(ABOVE_200, "without 3,", (d, n) -> d.some(0, 3, n, true, 5), 5, "  one two   ");
        for (int k : new int[] {1, 3, 4, GREATEST}) {
            for (int a : new int[] {0, 1, 2}) {
                b.answersEach(Bench.BELOW_NONE, "some", (d, n) -> d.some(a, k, n, false, 3), NONE);
                b.answersEach(Bench.BELOW_NONE, "without", (d, n) -> d.some(a, k, n, true, 3), NONE);
            }
        }
    }

    private static void someWithout() {
        Bench.sentence("Promise 25", "without: a without these and the BLANKS behind each");
        Bench b = new Bench('-', "  one two   three  ", "a b", "-a- b", MANY);
        b.made("without 1, 1", d -> d.some(0, 1, 1, true, 5), 5, "  two   three  ");
        b.made("without 2, 1", d -> d.some(0, 2, 1, true, 5), 5, "  one three  ");
        b.made("without 1, 2", d -> d.some(0, 1, 2, true, 5), 5, "  three  ");
        b.made("without 3, 1", d -> d.some(0, 3, 1, true, 5), 5, "  one two   ");
        b.made("without 2, 2", d -> d.some(0, 2, 2, true, 5), 5, "  one ");
        b.made("without the first", d -> d.some(1, 1, 1, true, 5), 5, "b");
        b.made("without the last", d -> d.some(1, 2, 1, true, 5), 5, "a ");
        b.made("without, pads are in words", d -> d.some(2, 1, 1, true, 5), 5, "b");
        b.made("without 99 of 100", d -> d.some(3, 2, 99, true, 5), 5, "x ");
        b.made("without, itself", d -> d.some(0, 2, 1, true, 0), 0, "  one three  ");
    }

    private static void someWithoutAll() {
        Bench.sentence("Promise 25", "all if n is NONE ... Or, without");
        Bench b = new Bench('-', "  one two   three  ", "", "   ", MANY);
        b.made("without 1, NONE", d -> d.some(0, 1, NONE, true, 5), 5, "  ");
        b.made("without 2, NONE", d -> d.some(0, 2, NONE, true, 5), 5, "  one ");
        b.made("without 3, NONE", d -> d.some(0, 3, NONE, true, 5), 5, "  one two   ");
        b.made("without all of none", d -> d.some(1, 1, NONE, true, 5), 5, "");
        b.made("without all of blanks", d -> d.some(2, 1, NONE, true, 5), 5, "   ");
        b.made("without all of 100", d -> d.some(3, 1, NONE, true, 5), 5, "");
    }

    private static void someWithoutNoneOfThem() {
        Bench.sentence("Promise 25, these being none", "a without these");
        Bench b = new Bench('-', THREE, "", "   ", MANY);
        b.made("without 4, NONE", d -> d.some(0, 4, NONE, true, 5), 5, THREE);
        b.made("without 4, 1", d -> d.some(0, 4, 1, true, 5), 5, THREE);
        b.made("without 101 of 100", d -> d.some(3, 101, 1, true, 5), 5, MANY);
        for (int k : new int[] {1, 2, 3, 4}) {
            b.made("without " + k + ", 0", d -> d.some(0, k, 0, true, 5), 5, THREE);
        }
        b.made("without 0 of none", d -> d.some(1, 1, 0, true, 5), 5, "");
        b.made("without 0 of blanks", d -> d.some(2, 1, 0, true, 5), 5, "   ");
    }

    private static void orderLastFirst() {
        Bench.sentence("Promise 26", "the last first (0)");
        Bench b = new Bench('-', "a b c", "one", "", "a-b \0 \377", MANY, "b a", " ".repeat(3));
        b.made("order three", d -> d.order(0, 0, 8), 8, "c b a");
        b.made("order two", d -> d.order(5, 0, 8), 8, "a b");
        b.made("order one", d -> d.order(1, 0, 8), 8, "one");
        b.made("order none", d -> d.order(2, 0, 8), 8, "");
        b.made("order blanks", d -> d.order(6, 0, 8), 8, "   ");
        b.made("order any bytes", d -> d.order(3, 0, 8), 8, "\377 \0 a-b");
        b.made("order 100", d -> d.order(4, 0, 8), 8, MANY);
        b.made("order itself", d -> d.order(0, 0, 0), 0, "c b a");
    }

    private static void orderByBytes() {
        Bench.sentence("Promise 26", "or by their bytes (0 .. 255)");
        Bench b = new Bench('-', "c b a", "\377 \200 \177 \0 a", "B a - \t", "", "one", "b\377 b\0 a\377",
                "x ".repeat(50) + "w ".repeat(50), " ");
        b.made("order letters", d -> d.order(0, 1, 8), 8, "a b c");
        b.made("order high bytes", d -> d.order(1, 1, 8), 8, "\0 a \177 \200 \377");
        b.made("order marks", d -> d.order(2, 1, 8), 8, "\t - B a");
        b.made("order none", d -> d.order(3, 1, 8), 8, "");
        b.made("order blanks", d -> d.order(7, 1, 8), 8, " ");
        b.made("order one", d -> d.order(4, 1, 8), 8, "one");
        b.made("order by the second byte", d -> d.order(5, 1, 8), 8, "a\377 b\0 b\377");
        b.made("order 100", d -> d.order(6, 1, 8), 8, "w ".repeat(50) + "x ".repeat(50));
        b.made("order itself", d -> d.order(0, 1, 0), 0, "a b c");
    }

    private static void orderABeginningAhead() {
        Bench.sentence("Promise 26", "a beginning ahead");
        Bench b = new Bench('-', "abc ab a", "a ab abc", "aa a\0 a", "b ab abc a", LONG.substring(101) + " x",
                "a\0 a\t a b");
        b.made("order of longer ones ahead", d -> d.order(0, 1, 8), 8, "a ab abc");
        b.made("order of beginnings ahead", d -> d.order(1, 1, 8), 8, "a ab abc");
        b.made("order with a byte 0", d -> d.order(2, 1, 8), 8, "a a\0 aa");
        b.made("order with bytes below a BLANK", d -> d.order(5, 1, 8), 8, "a a\0 a\t b");
        b.made("order with another", d -> d.order(3, 1, 8), 8, "a ab abc b");
        b.made("order of a long one", d -> d.order(4, 1, 8), 8, "x " + LONG.substring(101));
    }

    private static void orderAlike() {
        Bench.sentence("Promise 26", "those alike as they were (1)");
        Bench b = new Bench('-', "b a b a b", "a a  a", MANY);
        b.made("order with alike ones", d -> d.order(0, 1, 8), 8, "a a b b b");
        b.made("order of alike ones", d -> d.order(1, 1, 8), 8, "a a  a");
        b.made("order of 100 alike ones", d -> d.order(2, 1, 8), 8, MANY);
    }

    private static void orderBlanksStay() {
        Bench.sentence("Promise 26", "the BLANKS stay where they were");
        Bench b = new Bench('-', "  b  ab a\377 a    a\200c aba ", "   z y   ", "long   a b", "   ");
        b.made("order, the last first", d -> d.order(0, 0, 8), 8, "  aba  a\200c a a\377    ab b ");
        b.made("order by bytes", d -> d.order(0, 1, 8), 8, "  a  ab aba a\200c    a\377 b ");
        b.made("order of few", d -> d.order(1, 0, 8), 8, "   y z   ");
        b.made("order of few by bytes", d -> d.order(1, 1, 8), 8, "   y z   ");
        b.made("order of a long one", d -> d.order(2, 1, 8), 8, "a   b long");
        b.madeEach(new int[] {0, 1}, "order of blanks", (d, how) -> d.order(3, how, 8), 8, "   ");
    }

    private static void orderHow() {
        Bench.sentence("Promise 26, another how", "a number that is none of those told, is NONE");
        Bench b = new Bench('-', "b a", "", "old");
        int[] wrongHows = {-1, -2, 2, 3, 256, LEAST, GREATEST};
        b.answersEach(wrongHows, "order", (d, how) -> d.order(0, how, 2), NONE);
        b.answersEach(wrongHows, "order of none", (d, how) -> d.order(1, how, 2), NONE);
    }

    private static void place() {
        Bench.sentence("Promise 27", "WORDS of b that are ... those of a");
        Bench b = new Bench('-', "  be or  not be ", "be", "not", "b", "bee", "  or ", "e", MANY, "x", "NOT");
        b.answers("place of be", d -> d.place(1, 0, 1), 1);
        b.answers("place of not", d -> d.place(2, 0, 1), 3);
        b.answers("place of or with blanks", d -> d.place(5, 0, 1), 2);
        b.answers("place of a beginning", d -> d.place(3, 0, 1), 0);
        b.answers("place of an end", d -> d.place(6, 0, 1), 0);
        b.answers("place of a longer word", d -> d.place(4, 0, 1), 0);
        b.answers("place of capitals", d -> d.place(9, 0, 1), 0);
        b.answers("place of itself", d -> d.place(0, 0, 1), 1);
        b.answers("place of 100", d -> d.place(7, 7, 1), 1);
        b.answers("place 100 of 100", d -> d.place(8, 7, 100), 100);
    }

    private static void placeBehind() {
        Bench.sentence("Promise 27", "The number of the first one, at or behind the k-th");
        Bench b = new Bench('-', "  be or  not be or be  ", "be", " or   be");
        int[] be = {0, 1, 4, 4, 4, 6, 6, 0, 0};
        b.answersInTurn(be, 1, "place of be from", (d, k) -> d.place(1, 0, k));
        int[] orBe = {0, 5, 5, 5, 5, 5, 0, 0, 0};
        b.answersInTurn(orBe, 1, "place of or be from", (d, k) -> d.place(2, 0, k));
    }

    private static void placeOneBehindTheOther() {
        Bench.sentence("Promise 27", "one behind the other");
        Bench b = new Bench('-', "a b a   c a b c", "a c", "a  b  c", "b c a", "a c b", "c", "a b", "ab",
                "a a");
        b.answers("place of a c", d -> d.place(1, 0, 1), 3);
        b.answers("place of a b c", d -> d.place(2, 0, 1), 5);
        b.answers("place of b c a", d -> d.place(3, 0, 1), 0);
        b.answers("place of a c b", d -> d.place(4, 0, 1), 0);
        b.answers("place of a b from 2", d -> d.place(6, 0, 2), 5);
        b.answers("place of ab", d -> d.place(7, 0, 1), 0);
        b.answers("place of a b in ab", d -> d.place(6, 7, 1), 0);
        b.answers("place of a a", d -> d.place(8, 0, 1), 0);
        b.answers("place of the last", d -> d.place(5, 0, 5), 7);
    }

    private static void placeNone() {
        Bench.sentence("Promise 27", "0 if there is none");
        Bench b = new Bench('-', " be or not", "be", "to", "", "   ", "be or not to", "not to", MANY, "x x",
                LONG);
        b.answers("place of another", d -> d.place(2, 0, 1), 0);
        b.answers("place in none", d -> d.place(1, 3, 1), 0);
        b.answers("place in blanks", d -> d.place(1, 4, 1), 0);
        b.answers("place of more words", d -> d.place(5, 0, 1), 0);
        b.answers("place of more words than are left", d -> d.place(6, 0, 3), 0);
        b.answers("place of be, behind it", d -> d.place(1, 0, 2), 0);
        b.answers("place of two from 99 of 100", d -> d.place(8, 7, 99), 99);
        b.answers("place of two from 100 of 100", d -> d.place(8, 7, 100), 0);
        b.answers("place of 200", d -> d.place(9, 0, 1), 0);
    }

    private static void placeOfNoWords() {
        Bench.sentence("Promise 27", "or a has none");
        Bench b = new Bench('-', "be or not", "", "   ", MANY);
        for (int row : new int[] {0, 1, 2, 3}) {
            for (int k : new int[] {1, 2, 4, GREATEST}) {
                b.answers("place of none from " + k, d -> d.place(1, row, k), 0);
                b.answers("place of blanks from " + k, d -> d.place(2, row, k), 0);
            }
        }
    }

    private static void placeNumbers() {
        Bench.sentence("Promise 27", "k-th (1 or more)");
        Bench b = new Bench('-', "be or not", "be", "", "   ", "or not", MANY, "x");
        for (int a : new int[] {1, 2, 3, 4}) {
            for (int row : new int[] {0, 2, 5}) {
                b.answersEach(Bench.BELOW_1, "place of " + a, (d, k) -> d.place(a, row, k), NONE);
                b.answersEach(ABOVE_200, "place of " + a, (d, k) -> d.place(a, row, k), 0);
            }
        }
        b.answers("place from 101 of 100", d -> d.place(6, 5, 101), 0);
    }
}
