/** Promises 8 to 13, sentence by sentence: rows filled, cut, joined, copied, set into one another. */
public final class RowsTest {
    private static final int NONE = Bench.NONE;
    private static final int FULL = Bench.FULL;
    private static final int GREATEST = Bench.GREATEST;
    private static final int[] ABOVE_200 = Bench.ABOVE_200;
    private static final String LONG = "x".repeat(200);
    private static final String PADS = "-".repeat(200);

    public static void main(String[] args) {
        fillBehind();
        fillAhead();
        fillBothSides();
        fillBothSidesCut();
        fillNumbers();
        fillWays();
        part();
        partToTheEnd();
        partPlaces();
        partNumbers();
        cut();
        cutAllBehind();
        cutPlaces();
        cutNumbers();
        join();
        joinNumbers();
        copies();
        copiesNumbers();
        setPutIn();
        setLaidOver();
        setFilledFirst();
        setFull();
        setNumbers();
        Bench.close();
    }

    private static void fillBehind() {
        Bench.sentence("Promise 8", "way 0: cut or filled (with THE PAD) behind");
        Bench b = new Bench('-', "abcde", "", LONG);
        b.made("fill 0, longer", d -> d.fill(0, 0, 8, 3), 3, "abcde---");
        b.made("fill 0, longer by 1", d -> d.fill(0, 0, 6, 3), 3, "abcde-");
        b.made("fill 0, as it is", d -> d.fill(0, 0, 5, 3), 3, "abcde");
        b.made("fill 0, shorter by 1", d -> d.fill(0, 0, 4, 3), 3, "abcd");
        b.made("fill 0, shorter", d -> d.fill(0, 0, 2, 3), 3, "ab");
        b.made("fill 0 to 200", d -> d.fill(0, 0, 200, 3), 3, "abcde" + PADS.substring(5));
        b.made("fill 0 of 200", d -> d.fill(0, 2, 200, 3), 3, LONG);
        b.made("fill 0 of none", d -> d.fill(0, 1, 3, 3), 3, "---");
        b.made("fill 0 of itself", d -> d.fill(0, 0, 7, 0), 0, "abcde--");
    }

    private static void fillAhead() {
        Bench.sentence("Promise 8", "1: ahead");
        Bench b = new Bench('-', "abcde", "", LONG);
        b.made("fill 1, longer", d -> d.fill(1, 0, 8, 3), 3, "---abcde");
        b.made("fill 1, longer by 1", d -> d.fill(1, 0, 6, 3), 3, "-abcde");
        b.made("fill 1, as it is", d -> d.fill(1, 0, 5, 3), 3, "abcde");
        b.made("fill 1, shorter by 1", d -> d.fill(1, 0, 4, 3), 3, "bcde");
        b.made("fill 1, shorter", d -> d.fill(1, 0, 2, 3), 3, "de");
        b.made("fill 1 to 200", d -> d.fill(1, 0, 200, 3), 3, PADS.substring(5) + "abcde");
        b.made("fill 1 of 200", d -> d.fill(1, 2, 200, 3), 3, LONG);
        b.made("fill 1 of none", d -> d.fill(1, 1, 3, 3), 3, "---");
        b.made("fill 1 of itself", d -> d.fill(1, 0, 7, 0), 0, "--abcde");
        b.made("fill 1 of itself, cut", d -> d.fill(1, 0, 3, 0), 0, "cde");
    }

    private static void fillBothSides() {
        Bench.sentence("Promise 8", "2: on both sides, the half, rounded down, ahead");
        Bench b = new Bench('-', "abcde", "", LONG);
        b.made("fill 2, as it is", d -> d.fill(2, 0, 5, 3), 3, "abcde");
        b.made("fill 2, longer by 1", d -> d.fill(2, 0, 6, 3), 3, "abcde-");
        b.made("fill 2, longer by 2", d -> d.fill(2, 0, 7, 3), 3, "-abcde-");
        b.made("fill 2, longer by 3", d -> d.fill(2, 0, 8, 3), 3, "-abcde--");
        b.made("fill 2, longer by 4", d -> d.fill(2, 0, 9, 3), 3, "--abcde--");
        b.made("fill 2 to 200", d -> d.fill(2, 0, 200, 3), 3,
                PADS.substring(0, 97) + "abcde" + PADS.substring(0, 98));
        b.made("fill 2 of 200", d -> d.fill(2, 2, 200, 3), 3, LONG);
        b.made("fill 2 of none", d -> d.fill(2, 1, 3, 3), 3, "---");
        b.made("fill 2 of itself", d -> d.fill(2, 0, 8, 0), 0, "-abcde--");
    }

    private static void fillBothSidesCut() {
        Bench.sentence("Promise 8", "(cut: of what is too much)");
        Bench b = new Bench('-', "abcde", "a" + LONG.substring(2) + "z");
        b.made("fill 2, shorter by 1", d -> d.fill(2, 0, 4, 3), 3, "abcd");
        b.made("fill 2, shorter by 2", d -> d.fill(2, 0, 3, 3), 3, "bcd");
        b.made("fill 2, shorter by 3", d -> d.fill(2, 0, 2, 3), 3, "bc");
        b.made("fill 2, shorter by 4", d -> d.fill(2, 0, 1, 3), 3, "c");
        b.made("fill 2, shorter by all", d -> d.fill(2, 0, 0, 3), 3, "");
        b.made("fill 2, 199 of 200", d -> d.fill(2, 1, 199, 3), 3, "a" + LONG.substring(2));
        b.made("fill 2, 198 of 200", d -> d.fill(2, 1, 198, 3), 3, LONG.substring(2));
        b.made("fill 2 of itself, cut", d -> d.fill(2, 0, 2, 0), 0, "bc");
    }

    private static void fillNumbers() {
        Bench.sentence("Promise 8", "n bytes, 0 or more");
        Bench b = new Bench('-', "abcde", "old", "", LONG);
        for (int way : new int[] {0, 1, 2}) {
            for (int a : new int[] {0, 2, 3}) {
                b.answersEach(Bench.BELOW_0, "fill " + way, (d, n) -> d.fill(way, a, n, 1), NONE);
                b.answersEach(ABOVE_200, "fill " + way, (d, n) -> d.fill(way, a, n, 1), FULL);
                b.made("fill to none", d -> d.fill(way, a, 0, 4), 4, "");
            }
            b.made("fill of none to 1", d -> d.fill(way, 2, 1, 4), 4, "-");
            b.made("fill of none to 200", d -> d.fill(way, 2, 200, 4), 4, PADS);
        }
    }

    private static void fillWays() {
        Bench.sentence("Promise 8, another way", "a number that is none of those told, is NONE");
        Bench b = new Bench('-', "abcde", "old", "");
        int[] wrongWays = {-1, -2, 3, 4, 256, Bench.LEAST, GREATEST};
        for (int n : new int[] {0, 5, 9, 201}) {
            b.answersEach(wrongWays, "fill to " + n + ", way", (d, way) -> d.fill(way, 0, n, 1), NONE);
        }
    }

    private static void part() {
        Bench.sentence("Promise 9", "the n bytes of a from place k on, filled with THE PAD behind its end");
        Bench b = new Bench('-', "abcde", "", LONG);
        b.made("part 1, 1", d -> d.part(0, 1, 1, 3), 3, "a");
        b.made("part 2, 3", d -> d.part(0, 2, 3, 3), 3, "bcd");
        b.made("part 1, 5", d -> d.part(0, 1, 5, 3), 3, "abcde");
        b.made("part 1, 6", d -> d.part(0, 1, 6, 3), 3, "abcde-");
        b.made("part 4, 4", d -> d.part(0, 4, 4, 3), 3, "de--");
        b.made("part 5, 1", d -> d.part(0, 5, 1, 3), 3, "e");
        b.made("part 6, 2", d -> d.part(0, 6, 2, 3), 3, "--");
        b.made("part 1, 0", d -> d.part(0, 1, 0, 3), 3, "");
        b.made("part 5, 200", d -> d.part(0, 5, 200, 3), 3, "e" + PADS.substring(1));
        b.made("part of none", d -> d.part(1, 1, 2, 3), 3, "--");
        b.made("part of 200", d -> d.part(2, 1, 200, 3), 3, LONG);
        b.made("part of 200 from 200", d -> d.part(2, 200, 2, 3), 3, "x-");
        b.made("part of itself", d -> d.part(0, 2, 5, 0), 0, "bcde-");
    }

    private static void partToTheEnd() {
        Bench.sentence("Promise 9", "all up to its end if n is NONE");
        Bench b = new Bench('-', "abcde", "", LONG);
        b.made("part 1, NONE", d -> d.part(0, 1, NONE, 3), 3, "abcde");
        b.made("part 3, NONE", d -> d.part(0, 3, NONE, 3), 3, "cde");
        b.made("part 5, NONE", d -> d.part(0, 5, NONE, 3), 3, "e");
        b.made("part 6, NONE", d -> d.part(0, 6, NONE, 3), 3, "");
        b.made("part of none, NONE", d -> d.part(1, 1, NONE, 3), 3, "");
        b.made("part of 200, NONE", d -> d.part(2, 1, NONE, 3), 3, LONG);
        b.madeEach(ABOVE_200, "part NONE from", (d, k) -> d.part(2, k, NONE, 3), 3, "");
    }

    private static void partPlaces() {
        Bench.sentence("Promise 9", "k 1 or more");
        Bench b = new Bench('-', "abcde", "old", LONG, "");
        for (int a : new int[] {0, 2, 3}) {
            b.madeEach(ABOVE_200, "part 2 from", (d, k) -> d.part(a, k, 2, 4), 4, "--");
            b.madeEach(ABOVE_200, "part 0 from", (d, k) -> d.part(a, k, 0, 4), 4, "");
            b.madeEach(ABOVE_200, "part 200 from", (d, k) -> d.part(a, k, 200, 4), 4, PADS);
            b.answersEach(ABOVE_200, "part 201 from", (d, k) -> d.part(a, k, 201, 1), FULL);
            for (int n : new int[] {NONE, 0, 1, 201}) {
                b.answersEach(Bench.BELOW_1, "part " + n + " from", (d, k) -> d.part(a, k, n, 1), NONE);
            }
        }
    }

    private static void partNumbers() {
        Bench.sentence("Promise 9", "n NONE or more");
        Bench b = new Bench('-', "abcde", "old", LONG, "");
        for (int a : new int[] {0, 2, 3}) {
            for (int k : new int[] {1, 3, 201, GREATEST}) {
                b.answersEach(Bench.BELOW_NONE, "part from " + k, (d, n) -> d.part(a, k, n, 1), NONE);
                b.answersEach(ABOVE_200, "part from " + k, (d, n) -> d.part(a, k, n, 1), FULL);
            }
        }
    }

    private static void cut() {
        Bench.sentence("Promise 10", "a without the n bytes from place k on");
        Bench b = new Bench('-', "abcde", "", LONG);
        b.made("cut 1, 1", d -> d.cut(0, 1, 1, 3), 3, "bcde");
        b.made("cut 2, 3", d -> d.cut(0, 2, 3, 3), 3, "ae");
        b.made("cut 2, 4", d -> d.cut(0, 2, 4, 3), 3, "a");
        b.made("cut 2, 5", d -> d.cut(0, 2, 5, 3), 3, "a");
        b.made("cut 5, 1", d -> d.cut(0, 5, 1, 3), 3, "abcd");
        b.made("cut 6, 1", d -> d.cut(0, 6, 1, 3), 3, "abcde");
        b.made("cut 2, 0", d -> d.cut(0, 2, 0, 3), 3, "abcde");
        b.made("cut 1, 5", d -> d.cut(0, 1, 5, 3), 3, "");
        b.made("cut of none", d -> d.cut(1, 1, 1, 3), 3, "");
        b.made("cut 200 of 200", d -> d.cut(2, 1, 200, 3), 3, "");
        b.made("cut 1 of 200", d -> d.cut(2, 200, 1, 3), 3, LONG.substring(1));
        b.made("cut of itself", d -> d.cut(0, 2, 2, 0), 0, "ade");
    }

    private static void cutAllBehind() {
        Bench.sentence("Promise 10", "without all behind k and it if n is NONE");
        Bench b = new Bench('-', "abcde", "", LONG);
        b.made("cut 1, NONE", d -> d.cut(0, 1, NONE, 3), 3, "");
        b.made("cut 3, NONE", d -> d.cut(0, 3, NONE, 3), 3, "ab");
        b.made("cut 5, NONE", d -> d.cut(0, 5, NONE, 3), 3, "abcd");
        b.made("cut 6, NONE", d -> d.cut(0, 6, NONE, 3), 3, "abcde");
        b.made("cut of none, NONE", d -> d.cut(1, 1, NONE, 3), 3, "");
        b.madeEach(ABOVE_200, "cut NONE from", (d, k) -> d.cut(2, k, NONE, 3), 3, LONG);
    }

    private static void cutPlaces() {
        Bench.sentence("Promise 10", "k 1 or more");
        Bench b = new Bench('-', "abcde", "old", LONG, "");
        for (int n : new int[] {NONE, 0, 1, 200, 201, GREATEST}) {
            b.madeEach(ABOVE_200, "cut " + n + " from", (d, k) -> d.cut(0, k, n, 4), 4, "abcde");
            for (int a : new int[] {0, 2, 3}) {
                b.answersEach(Bench.BELOW_1, "cut " + n + " from", (d, k) -> d.cut(a, k, n, 1), NONE);
            }
        }
    }

    private static void cutNumbers() {
        Bench.sentence("Promise 10", "n NONE or more");
        Bench b = new Bench('-', "abcde", "old", LONG, "");
        b.madeEach(ABOVE_200, "cut from 1", (d, n) -> d.cut(0, 1, n, 4), 4, "");
        b.madeEach(ABOVE_200, "cut from 2", (d, n) -> d.cut(0, 2, n, 4), 4, "a");
        b.madeEach(ABOVE_200, "cut from 5", (d, n) -> d.cut(0, 5, n, 4), 4, "abcd");
        b.madeEach(ABOVE_200, "cut of 200 from 200", (d, n) -> d.cut(2, 200, n, 4), 4, LONG.substring(1));
        b.madeEach(ABOVE_200, "cut from greatest", (d, n) -> d.cut(0, GREATEST, n, 4), 4, "abcde");
        for (int a : new int[] {0, 2, 3}) {
            for (int k : new int[] {1, 3, 201, GREATEST}) {
                b.answersEach(Bench.BELOW_NONE, "cut from " + k, (d, n) -> d.cut(a, k, n, 1), NONE);
            }
        }
    }

    private static void join() {
        Bench.sentence("Promise 11", "a and b behind it, with w times THE PAD between");
        Bench b = new Bench('-', "abc", "de", "", "y".repeat(100), LONG);
        b.made("join 1", d -> d.join(0, 1, 1, 5), 5, "abc-de");
        b.made("join 3", d -> d.join(0, 1, 3, 5), 5, "abc---de");
        b.made("join of none and none", d -> d.join(2, 2, 2, 5), 5, "--");
        b.made("join of none ahead", d -> d.join(2, 1, 2, 5), 5, "--de");
        b.made("join of none behind", d -> d.join(1, 2, 2, 5), 5, "de--");
        b.made("join of 100s", d -> d.join(3, 3, 0, 5), 5, "y".repeat(200));
        b.made("join of 200 and none", d -> d.join(4, 2, 0, 5), 5, LONG);
        b.made("join of none and 200", d -> d.join(2, 4, 0, 5), 5, LONG);
        b.made("join into b", d -> d.join(0, 1, 1, 1), 1, "abc-de");
        b.made("join with itself", d -> d.join(0, 0, 1, 0), 0, "abc-abc");
    }

    private static void joinNumbers() {
        Bench.sentence("Promise 11", "0 or more");
        Bench b = new Bench('-', "abc", "de", "", "y".repeat(100), "old", LONG);
        b.made("join 0", d -> d.join(0, 1, 0, 6), 6, "abcde");
        b.made("join 0 of none", d -> d.join(2, 2, 0, 6), 6, "");
        b.made("join to 200", d -> d.join(0, 1, 195, 6), 6, "abc" + PADS.substring(5) + "de");
        b.made("join of none to 200", d -> d.join(2, 2, 200, 6), 6, PADS);
        b.answers("join to 201", d -> d.join(0, 1, 196, 4), FULL);
        b.answers("join of 100s to 201", d -> d.join(3, 3, 1, 4), FULL);
        b.answers("join of 200s", d -> d.join(5, 5, 0, 4), FULL);
        b.answers("join of 200 and a pad", d -> d.join(5, 2, 1, 4), FULL);
        for (int a : new int[] {0, 2, 5}) {
            b.answersEach(ABOVE_200, "join", (d, w) -> d.join(a, 2, w, 4), FULL);
            b.answersEach(ABOVE_200, "join", (d, w) -> d.join(5, a, w, 4), FULL);
            b.answersEach(Bench.BELOW_0, "join", (d, w) -> d.join(a, a, w, 4), NONE);
        }
    }

    private static void copies() {
        Bench.sentence("Promise 12", "n times a");
        Bench b = new Bench('-', "abc", "ab".repeat(50), LONG);
        b.made("copies 1", d -> d.copies(0, 1, 4), 4, "abc");
        b.made("copies 3", d -> d.copies(0, 3, 4), 4, "abcabcabc");
        b.made("copies 66", d -> d.copies(0, 66, 4), 4, "abc".repeat(66));
        b.made("copies of 100", d -> d.copies(1, 2, 4), 4, "ab".repeat(100));
        b.made("copies of 200", d -> d.copies(2, 1, 4), 4, LONG);
        b.made("copies into itself", d -> d.copies(0, 2, 0), 0, "abcabc");
    }

    private static void copiesNumbers() {
        Bench.sentence("Promise 12", "0 or more");
        Bench b = new Bench('-', "abc", "", "ab".repeat(50), "old", "abcd", LONG, "z");
        for (int a : new int[] {0, 1, 2, 5}) {
            b.made("copies 0", d -> d.copies(a, 0, 7), 7, "");
            b.answersEach(Bench.BELOW_0, "copies", (d, n) -> d.copies(a, n, 3), NONE);
        }
        b.madeEach(ABOVE_200, "copies of none", (d, n) -> d.copies(1, n, 7), 7, "");
        for (int a : new int[] {0, 2, 4, 5, 6}) {
            b.answersEach(ABOVE_200, "copies of " + a, (d, n) -> d.copies(a, n, 3), FULL);
        }
        b.made("copies of one to 200", d -> d.copies(6, 200, 7), 7, "z".repeat(200));
        b.answers("copies to 201", d -> d.copies(0, 67, 3), FULL);
        b.answers("copies of 200 to 400", d -> d.copies(5, 2, 3), FULL);
    }

    private static void setPutIn() {
        Bench.sentence("Promise 13", "b with a put in behind its byte n");
        Bench b = new Bench('-', "AB", "abcde", "", "x".repeat(198), LONG);
        b.made("set in 0", d -> d.set(0, 1, 0, false, 5), 5, "ABabcde");
        b.made("set in 1", d -> d.set(0, 1, 1, false, 5), 5, "aABbcde");
        b.made("set in 4", d -> d.set(0, 1, 4, false, 5), 5, "abcdABe");
        b.made("set in 5", d -> d.set(0, 1, 5, false, 5), 5, "abcdeAB");
        b.made("set none in 2", d -> d.set(2, 1, 2, false, 5), 5, "abcde");
        b.made("set in none", d -> d.set(0, 2, 0, false, 5), 5, "AB");
        b.made("set in 198", d -> d.set(0, 3, 197, false, 5), 5, "x".repeat(197) + "ABx");
        b.made("set none in 200", d -> d.set(2, 4, 200, false, 5), 5, LONG);
        b.made("set 200 in none", d -> d.set(4, 2, 0, false, 5), 5, LONG);
        b.made("set in itself", d -> d.set(0, 0, 1, false, 0), 0, "AABB");
    }

    private static void setLaidOver() {
        Bench.sentence("Promise 13", "or laid over it from there on");
        Bench b = new Bench('-', "AB", "abcde", "", LONG);
        b.made("set over 0", d -> d.set(0, 1, 0, true, 5), 5, "ABcde");
        b.made("set over 2", d -> d.set(0, 1, 2, true, 5), 5, "abABe");
        b.made("set over 3", d -> d.set(0, 1, 3, true, 5), 5, "abcAB");
        b.made("set over 4", d -> d.set(0, 1, 4, true, 5), 5, "abcdAB");
        b.made("set over 5", d -> d.set(0, 1, 5, true, 5), 5, "abcdeAB");
        b.made("set none over 2", d -> d.set(2, 1, 2, true, 5), 5, "abcde");
        b.made("set over none", d -> d.set(0, 2, 0, true, 5), 5, "AB");
        b.made("set over the end of 200", d -> d.set(0, 3, 198, true, 5), 5, "x".repeat(198) + "AB");
        b.made("set none over 200", d -> d.set(2, 3, 200, true, 5), 5, LONG);
        b.made("set 200 over", d -> d.set(3, 1, 0, true, 5), 5, LONG);
        b.made("set over itself", d -> d.set(1, 1, 2, true, 1), 1, "ababcde");
    }

    private static void setFilledFirst() {
        Bench.sentence("Promise 13", "b is first filled with THE PAD, if it is shorter");
        Bench b = new Bench('-', "AB", "abcde", "");
        for (boolean over : new boolean[] {false, true}) {
            b.made("set 6", d -> d.set(0, 1, 6, over, 5), 5, "abcde-AB");
            b.made("set 7", d -> d.set(0, 1, 7, over, 5), 5, "abcde--AB");
            b.made("set none 7", d -> d.set(2, 1, 7, over, 5), 5, "abcde--");
            b.made("set 3 of none", d -> d.set(0, 2, 3, over, 5), 5, "---AB");
            b.made("set none 3 of none", d -> d.set(2, 2, 3, over, 5), 5, "---");
            b.made("set to 200", d -> d.set(0, 1, 198, over, 5), 5, "abcde" + PADS.substring(7) + "AB");
            b.made("set none to 200", d -> d.set(2, 2, 200, over, 5), 5, PADS);
        }
    }

    private static void setFull() {
        Bench.sentence("Promise 13", "What would have more than 200 is FULL");
        Bench b = new Bench('-', "AB", "abcde", "", LONG, "old", "x".repeat(199));
        for (boolean over : new boolean[] {false, true}) {
            b.answers("set behind 199", d -> d.set(0, 1, 199, over, 4), FULL);
            b.answers("set behind 200", d -> d.set(0, 3, 200, over, 4), FULL);
            b.answers("set behind 199 of 200", d -> d.set(0, 3, 199, over, 4), FULL);
            b.answers("set none behind 201", d -> d.set(2, 2, 201, over, 4), FULL);
            b.answers("set 200 behind 1", d -> d.set(3, 1, 1, over, 4), FULL);
        }
        b.answers("set in 0 of 200", d -> d.set(0, 3, 0, false, 4), FULL);
        b.answers("set in 0 of 199", d -> d.set(0, 5, 0, false, 4), FULL);
        b.answers("set in 199 of 199", d -> d.set(0, 5, 199, false, 4), FULL);
        b.answers("set 200 in 5", d -> d.set(3, 1, 0, false, 4), FULL);
    }

    private static void setNumbers() {
        Bench.sentence("Promise 13", "(0 or more)");
        Bench b = new Bench('-', "AB", "abcde", "", LONG, "old");
        for (boolean over : new boolean[] {false, true}) {
            String name = over ? "set over" : "set in";
            for (int a : new int[] {0, 2, 3}) {
                for (int row : new int[] {1, 2, 3}) {
                    b.answersEach(ABOVE_200, name, (d, n) -> d.set(a, row, n, over, 4), FULL);
                    b.answersEach(Bench.BELOW_0, name, (d, n) -> d.set(a, row, n, over, 4), NONE);
                }
            }
        }
    }
}
