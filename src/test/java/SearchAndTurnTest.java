/** Promises 14 to 21, sentence by sentence: rows searched, changed, told apart, stripped, turned. */
public final class SearchAndTurnTest {
    private static final int NONE = Bench.NONE;
    private static final int FULL = Bench.FULL;
    private static final int LEAST = Bench.LEAST;
    private static final int GREATEST = Bench.GREATEST;
    private static final int[] ABOVE_200 = Bench.ABOVE_200;
    private static final String LONG = "x".repeat(200);

    public static void main(String[] args) {
        findFirst();
        findLast();
        findNot();
        findNoBytes();
        findPlaces();
        findTheEnd();
        change();
        changeFromTheLeft();
        changeNoBytes();
        changeFull();
        often();
        oftenFromTheLeft();
        oftenNoBytes();
        unlike();
        unlikeFilled();
        unlikeNone();
        strip();
        stripPadsAlone();
        stripEnds();
        turnAbout();
        turnCapitals();
        turnSmallLetters();
        turnInOrder();
        turnEachOnce();
        turnHow();
        translate();
        translateFirstPlaceCounts();
        translatePadBehind();
        verifyIn();
        verifyOther();
        verifyNone();
        verifyPlaces();
        Bench.close();
    }

    private static void findFirst() {
        Bench.sentence("Promise 14", "the first place at or behind k");
        Bench b = new Bench('-', "aa", "aaabaaa", "b", LONG, "\0\377", "\377\0\377\0");
        int[] first = {0, 1, 2, 5, 5, 5, 6, 0, 0, 0};
        b.answersInTurn(first, 1, "find aa from", (d, k) -> d.find(0, 1, k, false));
        b.answers("find b from 4", d -> d.find(2, 1, 4, false), 4);
        b.answers("find itself", d -> d.find(1, 1, 1, false), 1);
        b.answers("find any bytes", d -> d.find(4, 5, 1, false), 2);
        b.answers("find 200 in 200", d -> d.find(3, 3, 1, false), 1);
        b.answers("find 200 in 200 from 2", d -> d.find(3, 3, 2, false), 0);
        Bench edge = new Bench('-', "x", LONG, "xx");
        edge.answers("find at the end of 200", d -> d.find(0, 1, 200, false), 200);
        edge.answers("find two at the end of 200", d -> d.find(2, 1, 199, false), 199);
        edge.answers("find two behind it", d -> d.find(2, 1, 200, false), 0);
    }

    private static void findLast() {
        Bench.sentence("Promise 14", "or, last, the last place at which it ends at or ahead of k");
        Bench b = new Bench('-', "aa", "aaabaaa", "b", LONG, "x");
        int[] last = {0, 0, 1, 2, 2, 2, 5, 6, 6, 6};
        b.answersInTurn(last, 1, "find the last aa up to", (d, k) -> d.find(0, 1, k, true));
        int[] one = {0, 0, 0, 0, 4, 4};
        b.answersInTurn(one, 1, "find the last b up to", (d, k) -> d.find(2, 1, k, true));
        b.answers("find itself", d -> d.find(1, 1, 7, true), 1);
        b.answers("find itself up to 6", d -> d.find(1, 1, 6, true), 0);
        b.answers("find 200 in 200", d -> d.find(3, 3, 200, true), 1);
        b.answers("find 200 in 200 up to 199", d -> d.find(3, 3, 199, true), 0);
        b.answers("find the last of 200", d -> d.find(4, 3, 200, true), 200);
        b.answers("find up to 1", d -> d.find(4, 3, 1, true), 1);
    }

    private static void findNot() {
        Bench.sentence("Promise 14", "0 if it does not");
        Bench b = new Bench('-', "aa", "aaabaaa", "aaabaaab", "c", "", "aab", "baaaa", LONG);
        for (int a : new int[] {2, 3, 6, 7}) {
            b.answers("find " + a, d -> d.find(a, 1, 1, false), 0);
            b.answers("find the last " + a, d -> d.find(a, 1, NONE, true), 0);
            b.answers("find the last up to 7 " + a, d -> d.find(a, 1, 7, true), 0);
        }
        b.answers("find in none", d -> d.find(0, 4, 1, false), 0);
        b.answers("find the last in none", d -> d.find(0, 4, NONE, true), 0);
        b.answers("find the last in none up to 1", d -> d.find(0, 4, 1, true), 0);
        b.answers("find behind it alone", d -> d.find(5, 1, 3, false), 0);
        b.answers("find ahead of it alone", d -> d.find(5, 1, 3, true), 0);
    }

    private static void findNoBytes() {
        Bench.sentence("Promise 14", "or has no bytes");
        Bench b = new Bench('-', "", "abc", LONG);
        for (int row : new int[] {0, 1, 2}) {
            for (int k : new int[] {1, 2, 3, 4, 200, 201, GREATEST}) {
                b.answers("find none from " + k, d -> d.find(0, row, k, false), 0);
                b.answers("find the last none up to " + k, d -> d.find(0, row, k, true), 0);
            }
            b.answers("find the last none up to the end", d -> d.find(0, row, NONE, true), 0);
        }
    }

    private static void findPlaces() {
        Bench.sentence("Promise 14", "k 1 or more");
        Bench b = new Bench('-', "aa", "aaabaaa", "", LONG);
        int[] below = {0, -2, -3, FULL, -256, LEAST + 1, LEAST};
        for (int a : new int[] {0, 1, 2}) {
            for (int row : new int[] {1, 2, 3}) {
                b.answersEach(Bench.BELOW_1, "find from", (d, k) -> d.find(a, row, k, false), NONE);
                b.answersEach(below, "find the last up to", (d, k) -> d.find(a, row, k, true), NONE);
            }
            b.answersEach(ABOVE_200, "find from", (d, k) -> d.find(a, 1, k, false), 0);
        }
        b.answersEach(ABOVE_200, "find the last up to", (d, k) -> d.find(0, 1, k, true), 6);
        b.answersEach(ABOVE_200, "find 200 up to", (d, k) -> d.find(3, 3, k, true), 1);
        b.answersEach(ABOVE_200, "find a longer one up to", (d, k) -> d.find(3, 1, k, true), 0);
    }

    private static void findTheEnd() {
        Bench.sentence("Promise 14", "(last: also NONE, the end)");
        Bench b = new Bench('-', "aa", "aaabaaa", "aaa", "aab", LONG, "x");
        b.answers("find the last aa", d -> d.find(0, 1, NONE, true), 6);
        b.answers("find the last aaa", d -> d.find(2, 1, NONE, true), 5);
        b.answers("find the last aab", d -> d.find(3, 1, NONE, true), 2);
        b.answers("find itself", d -> d.find(1, 1, NONE, true), 1);
        b.answers("find the last of 200", d -> d.find(5, 4, NONE, true), 200);
        b.answers("find 200 in 200", d -> d.find(4, 4, NONE, true), 1);
        b.answers("find the first from NONE", d -> d.find(0, 1, NONE, false), NONE);
    }

    private static void change() {
        Bench.sentence("Promise 15", "b with each a in it ... become c");
        Bench b = new Bench('-', "aa", "aaabaaaa", "XYZ", "", "ab".repeat(100), "b", "\0\377", "a\0\377");
        b.made("change to longer", d -> d.change(0, 1, 2, 9), 9, "XYZabXYZXYZ");
        b.made("change to none", d -> d.change(0, 1, 3, 9), 9, "ab");
        b.made("change in none", d -> d.change(0, 3, 2, 9), 9, "");
        b.made("change to itself", d -> d.change(0, 1, 0, 9), 9, "aaabaaaa");
        b.made("change of all", d -> d.change(1, 1, 2, 9), 9, "XYZ");
        b.made("change of all to none", d -> d.change(1, 1, 3, 9), 9, "");
        b.made("change of what is not there", d -> d.change(2, 1, 0, 9), 9, "aaabaaaa");
        b.made("change of a longer one", d -> d.change(4, 1, 0, 9), 9, "aaabaaaa");
        b.made("change in 200", d -> d.change(5, 4, 3, 9), 9, "a".repeat(100));
        b.made("change of any bytes", d -> d.change(6, 7, 5, 9), 9, "ab");
        b.made("change into a", d -> d.change(0, 1, 2, 0), 0, "XYZabXYZXYZ");
        b.made("change into b", d -> d.change(0, 1, 2, 1), 1, "XYZabXYZXYZ");
        b.made("change into c", d -> d.change(0, 1, 5, 5), 5, "babbb");
    }

    private static void changeFromTheLeft() {
        Bench.sentence("Promise 15", "from the left, not overlapping");
        Bench b = new Bench('-', "aa", "aaaaa", "X", "aba", "abababa", "ab", "aabb", "", "a");
        b.made("change aa in aaaaa", d -> d.change(0, 1, 2, 9), 9, "XXa");
        b.made("change aba in abababa", d -> d.change(3, 4, 2, 9), 9, "XbX");
        b.made("change ab in aabb, that leaves ab", d -> d.change(5, 6, 7, 9), 9, "ab");
        b.made("change a to aa", d -> d.change(8, 1, 0, 9), 9, "aaaaaaaaaa");
        b.made("change aa to a", d -> d.change(0, 1, 8, 9), 9, "aaa");
    }

    private static void changeNoBytes() {
        Bench.sentence("Promise 15", "(as it is, if a has no bytes)");
        Bench b = new Bench('-', "", "abc", "XYZ", LONG);
        for (int c : new int[] {0, 1, 2, 3}) {
            b.made("change of none", d -> d.change(0, 1, c, 4), 4, "abc");
            b.made("change of none in none", d -> d.change(0, 0, c, 4), 4, "");
            b.made("change of none in 200", d -> d.change(0, 3, c, 4), 4, LONG);
        }
    }

    private static void changeFull() {
        Bench.sentence("Promise 15", "What would have more than 200 is FULL");
        Bench b = new Bench('-', "a", "a".repeat(100), "bb", "a".repeat(100) + "c", LONG, "x", "xx", "old", "",
                "x".repeat(199));
        b.made("change to 200", d -> d.change(0, 1, 2, 7), 7, "b".repeat(200));
        b.made("change of 200", d -> d.change(5, 4, 0, 7), 7, "a".repeat(200));
        b.made("change one to 200", d -> d.change(5, 5, 4, 7), 7, LONG);
        b.made("change none of 200", d -> d.change(0, 4, 4, 7), 7, LONG);
        b.made("change 200 to none", d -> d.change(5, 4, 8, 7), 7, "");
        b.answers("change to 201", d -> d.change(0, 3, 2, 7), FULL);
        b.answers("change of 200 to 400", d -> d.change(5, 4, 6, 7), FULL);
        b.answers("change of 200 to 40000", d -> d.change(5, 4, 4, 7), FULL);
        b.answers("change of two to 199 each", d -> d.change(5, 6, 9, 7), FULL);
    }

    private static void often() {
        Bench.sentence("Promise 16", "How often a is in b");
        Bench b = new Bench('-', "ab", "abcabcab", "", LONG, "x", "c", "\377\0", "\377\0\0\377\0");
        b.answers("often ab", d -> d.often(0, 1), 3);
        b.answers("often c", d -> d.often(5, 1), 2);
        b.answers("often of itself", d -> d.often(1, 1), 1);
        b.answers("often of what is not there", d -> d.often(4, 1), 0);
        b.answers("often of a longer one", d -> d.often(1, 0), 0);
        b.answers("often in none", d -> d.often(0, 2), 0);
        b.answers("often in 200", d -> d.often(4, 3), 200);
        b.answers("often 200 in 200", d -> d.often(3, 3), 1);
        b.answers("often of any bytes", d -> d.often(6, 7), 2);
        b.answersEach(Bench.NO_REGISTERS, "often of no register", (d, r) -> d.often(r, 1), NONE);
        b.answersEach(Bench.NO_REGISTERS, "often in no register", (d, r) -> d.often(2, r), NONE);
    }

    private static void oftenFromTheLeft() {
        Bench.sentence("Promise 16", "from the left, not overlapping");
        Bench b = new Bench('-', "aa", "aaabaaaaa", "aba", "ababababa", LONG, "xxx");
        b.answers("often aa", d -> d.often(0, 1), 3);
        b.answers("often aba", d -> d.often(2, 3), 2);
        b.answers("often xxx in 200", d -> d.often(5, 4), 66);
    }

    private static void oftenNoBytes() {
        Bench.sentence("Promise 16", "0 if it has no bytes");
        Bench b = new Bench('-', "", "abc", LONG);
        b.answersEach(new int[] {0, 1, 2}, "often none in", (d, row) -> d.often(0, row), 0);
    }

    private static void unlike() {
        Bench.sentence("Promise 17", "The first place at which a and b differ");
        Bench b = new Bench('-', "abc", "abd", "xbc", "\377bc", LONG, LONG.substring(1) + "y", "aBC");
        b.answers("unlike at 1", d -> d.unlike(0, 2), 1);
        b.answers("unlike at 1, a high byte", d -> d.unlike(0, 3), 1);
        b.answers("unlike at 2", d -> d.unlike(0, 6), 2);
        b.answers("unlike at 3", d -> d.unlike(0, 1), 3);
        b.answers("unlike at 200", d -> d.unlike(4, 5), 200);
        b.answersEach(Bench.NO_REGISTERS, "unlike of no register", (d, r) -> d.unlike(r, 1), NONE);
        b.answersEach(Bench.NO_REGISTERS, "unlike to no register", (d, r) -> d.unlike(0, r), NONE);
    }

    private static void unlikeFilled() {
        Bench.sentence("Promise 17", "the shorter one filled with THE PAD");
        Bench b = new Bench('-', "abc", "abc--", "", "---", "abc--x", "abc  ", "abcd", LONG);
        int[][] places = {{0, 1, 0}, {2, 3, 0}, {0, 4, 6}, {0, 5, 4}, {0, 6, 4}, {2, 0, 1}, {2, 7, 1},
            {1, 4, 6}};
        for (int[] p : places) {
            b.answers("unlike " + p[0] + ", " + p[1], d -> d.unlike(p[0], p[1]), p[2]);
            b.answers("unlike " + p[1] + ", " + p[0], d -> d.unlike(p[1], p[0]), p[2]);
        }
        Bench blank = new Bench(32, "abc", "abc  ", "abc-", LONG.substring(1), LONG.substring(1) + " ", LONG);
        blank.answers("unlike, blanks are pads", d -> d.unlike(0, 1), 0);
        blank.answers("unlike, others are not", d -> d.unlike(0, 2), 4);
        blank.answers("unlike of 199 and 200", d -> d.unlike(3, 4), 0);
        blank.answers("unlike of 199 and 200, at 200", d -> d.unlike(3, 5), 200);
        Bench zero = new Bench(0, "a", "a\0", "a ");
        zero.answers("unlike, zeros are pads", d -> d.unlike(0, 1), 0);
        zero.answers("unlike, blanks are not", d -> d.unlike(0, 2), 2);
    }

    private static void unlikeNone() {
        Bench.sentence("Promise 17", "0 if none");
        Bench b = new Bench('-', "abc", "abc", "", "", LONG, LONG, "-", "----");
        int[][] alike = {{0, 0}, {0, 1}, {2, 2}, {2, 3}, {4, 4}, {4, 5}, {6, 7}, {2, 6}, {7, 3}};
        for (int[] p : alike) {
            b.answers("unlike " + p[0] + ", " + p[1], d -> d.unlike(p[0], p[1]), 0);
        }
    }

    private static void strip() {
        Bench.sentence("Promise 18", "0 both, 1 the begin, 2 the end");
        Bench b = new Bench('-', "--a-b---", "a", "-a", "a-", " a ", LONG, "-" + "x".repeat(198) + "-");
        b.made("strip both", d -> d.strip(0, 0, 7), 7, "a-b");
        b.made("strip the begin", d -> d.strip(0, 1, 7), 7, "a-b---");
        b.made("strip the end", d -> d.strip(0, 2, 7), 7, "--a-b");
        b.made("strip one, both", d -> d.strip(2, 0, 7), 7, "a");
        b.made("strip one, the begin", d -> d.strip(2, 1, 7), 7, "a");
        b.made("strip one, the end", d -> d.strip(2, 2, 7), 7, "-a");
        b.made("strip one behind, the begin", d -> d.strip(3, 1, 7), 7, "a-");
        b.made("strip one behind, the end", d -> d.strip(3, 2, 7), 7, "a");
        for (int ends : new int[] {0, 1, 2}) {
            b.made("strip without pads", d -> d.strip(1, ends, 7), 7, "a");
            b.made("strip blanks that are no pads", d -> d.strip(4, ends, 7), 7, " a ");
            b.made("strip 200", d -> d.strip(5, ends, 7), 7, LONG);
        }
        b.made("strip 200, both", d -> d.strip(6, 0, 7), 7, "x".repeat(198));
        b.made("strip itself", d -> d.strip(0, 0, 0), 0, "a-b");
    }

    private static void stripPadsAlone() {
        Bench.sentence("Promise 18", "without THE PADs at its ends");
        Bench b = new Bench(0, "\0", "\0\0\0", "", "\0".repeat(200));
        for (int ends : new int[] {0, 1, 2}) {
            b.madeEach(new int[] {0, 1, 2, 3}, "strip " + ends + " of", (d, a) -> d.strip(a, ends, 5), 5, "");
        }
    }

    private static void stripEnds() {
        Bench.sentence("Promise 18, other ends", "a number that is none of those told, is NONE");
        Bench b = new Bench('-', "--a--", "", "old");
        int[] wrongEnds = {-1, -2, 3, 4, 256, 257, LEAST, GREATEST};
        b.answersEach(wrongEnds, "strip", (d, ends) -> d.strip(0, ends, 2), NONE);
        b.answersEach(wrongEnds, "strip of none", (d, ends) -> d.strip(1, ends, 2), NONE);
    }

    private static void turnAbout() {
        Bench.sentence("Promise 19", "turned about (0)");
        Bench b = new Bench('-', "abc", "", "a", " ab\0\377", "a" + "x".repeat(198) + "b");
        b.made("turn about", d -> d.turn(0, 0, 5), 5, "cba");
        b.made("turn about none", d -> d.turn(0, 1, 5), 5, "");
        b.made("turn about one", d -> d.turn(0, 2, 5), 5, "a");
        b.made("turn about any bytes", d -> d.turn(0, 3, 5), 5, "\377\0ba ");
        b.made("turn about 200", d -> d.turn(0, 4, 5), 5, "b" + "x".repeat(198) + "a");
        b.made("turn about itself", d -> d.turn(0, 0, 0), 0, "cba");
    }

    private static void turnCapitals() {
        Bench.sentence("Promise 19", "in capitals (1)");
        Bench b = new Bench('-', "`abyz{@ABYZ[", "", bytesBut(0, 128, "az"), bytesBut(128, 256, ""), LONG);
        b.made("turn to capitals", d -> d.turn(1, 0, 5), 5, "`ABYZ{@ABYZ[");
        b.made("turn none to capitals", d -> d.turn(1, 1, 5), 5, "");
        b.made("turn no small letters", d -> d.turn(1, 2, 5), 5, bytesBut(0, 128, "az"));
        b.made("turn high bytes to capitals", d -> d.turn(1, 3, 5), 5, bytesBut(128, 256, ""));
        b.made("turn 200 to capitals", d -> d.turn(1, 4, 5), 5, "X".repeat(200));
        b.made("turn itself to capitals", d -> d.turn(1, 0, 0), 0, "`ABYZ{@ABYZ[");
    }

    private static void turnSmallLetters() {
        Bench.sentence("Promise 19", "in small letters (2)");
        Bench b = new Bench('-', "`abyz{@ABYZ[", "", bytesBut(0, 128, "AZ"), bytesBut(128, 256, ""),
                "X".repeat(200));
        b.made("turn to small letters", d -> d.turn(2, 0, 5), 5, "`abyz{@abyz[");
        b.made("turn none to small letters", d -> d.turn(2, 1, 5), 5, "");
        b.made("turn no capitals", d -> d.turn(2, 2, 5), 5, bytesBut(0, 128, "AZ"));
        b.made("turn high bytes to small letters", d -> d.turn(2, 3, 5), 5, bytesBut(128, 256, ""));
        b.made("turn 200 to small letters", d -> d.turn(2, 4, 5), 5, LONG);
        b.made("turn itself to small letters", d -> d.turn(2, 0, 0), 0, "`abyz{@abyz[");
    }

    private static void turnInOrder() {
        Bench.sentence("Promise 19", "its bytes in order, the least first (3)");
        Bench b = new Bench('-', "cabbac\377\0\200\177 c", "", "a", LONG, "ba".repeat(100));
        b.made("turn in order", d -> d.turn(3, 0, 5), 5, "\0 aabbccc\177\200\377");
        b.made("turn none in order", d -> d.turn(3, 1, 5), 5, "");
        b.made("turn one in order", d -> d.turn(3, 2, 5), 5, "a");
        b.made("turn 200 alike in order", d -> d.turn(3, 3, 5), 5, LONG);
        b.made("turn 200 in order", d -> d.turn(3, 4, 5), 5, "a".repeat(100) + "b".repeat(100));
        b.made("turn itself in order", d -> d.turn(3, 0, 0), 0, "\0 aabbccc\177\200\377");
    }

    private static void turnEachOnce() {
        Bench.sentence("Promise 19", "each byte that is there once, as it came first (4)");
        Bench b = new Bench('-', "cabbac\377\0\200\0\177\377c", "", "a", LONG, "ba".repeat(100),
                bytesBut(56, 256, ""));
        b.made("turn, each once", d -> d.turn(4, 0, 6), 6, "cab\377\0\200\177");
        b.made("turn, each once of none", d -> d.turn(4, 1, 6), 6, "");
        b.made("turn, each once of one", d -> d.turn(4, 2, 6), 6, "a");
        b.made("turn, each once of 200 alike", d -> d.turn(4, 3, 6), 6, "x");
        b.made("turn, each once of 200", d -> d.turn(4, 4, 6), 6, "ba");
        b.made("turn, each once of 200 unlike", d -> d.turn(4, 5, 6), 6, bytesBut(56, 256, ""));
        b.made("turn itself, each once", d -> d.turn(4, 0, 0), 0, "cab\377\0\200\177");
    }

    private static void turnHow() {
        Bench.sentence("Promise 19, another how", "a number that is none of those told, is NONE");
        Bench b = new Bench('-', "bBa", "", "old");
        int[] wrongHows = {-1, -2, 5, 6, 256, 260, LEAST, GREATEST};
        b.answersEach(wrongHows, "turn", (d, how) -> d.turn(how, 0, 2), NONE);
        b.answersEach(wrongHows, "turn of none", (d, how) -> d.turn(how, 1, 2), NONE);
    }

    private static void translate() {
        Bench.sentence("Promise 20", "a with each byte that is in c ... become that of b at this place");
        Bench b = new Bench('-', "abcabcd", "XYZ", "abc", "", "bca", "\377\0", "\0\377", LONG, "x", "y");
        b.made("translate", d -> d.translate(0, 1, 2, 3), 3, "XYZXYZd");
        b.made("translate by none", d -> d.translate(0, 1, 3, 9), 9, "abcabcd");
        b.made("translate none", d -> d.translate(3, 1, 2, 9), 9, "");
        b.made("translate once alone", d -> d.translate(0, 4, 2, 9), 9, "bcabcad");
        b.made("translate any bytes", d -> d.translate(5, 6, 5, 9), 9, "\0\377");
        b.made("translate 200", d -> d.translate(7, 9, 8, 3), 3, "y".repeat(200));
        b.made("translate into a", d -> d.translate(0, 1, 2, 0), 0, "XYZXYZd");
        b.made("translate into b", d -> d.translate(0, 1, 2, 1), 1, "XYZXYZd");
        b.made("translate into c", d -> d.translate(0, 1, 2, 2), 2, "XYZXYZd");
    }

    private static void translateFirstPlaceCounts() {
        Bench.sentence("Promise 20", "(its first place there counts)");
        Bench b = new Bench('-', "abc", "WXYZ", "aaab", "bab", "", LONG, "x", "12" + "3".repeat(198));
        b.made("translate by aaab", d -> d.translate(0, 1, 2, 9), 9, "WZc");
        b.made("translate by bab", d -> d.translate(0, 1, 3, 9), 9, "XWc");
        b.made("translate by 200 alike", d -> d.translate(6, 7, 5, 9), 9, "1");
    }

    private static void translatePadBehind() {
        Bench.sentence("Promise 20", "THE PAD behind b's end");
        Bench b = new Bench('-', "abcabcd", "X", "abc", "", "abca", "XYZ", LONG, "x");
        b.made("translate to one", d -> d.translate(0, 1, 2, 9), 9, "X--X--d");
        b.made("translate to none", d -> d.translate(0, 3, 2, 9), 9, "------d");
        b.made("translate, the first has one", d -> d.translate(0, 5, 4, 9), 9, "XYZXYZd");
        b.made("translate 200 to none", d -> d.translate(6, 3, 7, 9), 9, "-".repeat(200));
        Bench high = new Bench(255, "ab", "", "b");
        high.made("translate to the highest pad", d -> d.translate(0, 1, 2, 9), 9, "a\377");
        Bench zero = new Bench(0, "ab", "", "b");
        zero.made("translate to the least pad", d -> d.translate(0, 1, 2, 9), 9, "a\0");
    }

    private static void verifyIn() {
        Bench.sentence("Promise 21", "The first place of a, at or behind k ..., whose byte is in b");
        Bench b = new Bench('-', "abcabcd", "ca", LONG, "x", "\377\0x", "x\0");
        int[] in = {0, 1, 3, 3, 4, 6, 6, 0, 0, 0};
        b.answersInTurn(in, 1, "verify from", (d, k) -> d.verify(0, 1, k, false));
        b.answers("verify any bytes", d -> d.verify(4, 5, 1, false), 2);
        b.answers("verify at the end of 200", d -> d.verify(2, 3, 200, false), 200);
        b.answers("verify behind 200", d -> d.verify(2, 3, 201, false), 0);
    }

    private static void verifyOther() {
        Bench.sentence("Promise 21", "or, other, is not");
        Bench b = new Bench('-', "abcabcd", "ca", LONG, "", "\377\0x", "x\377", "-ab");
        int[] out = {0, 2, 2, 5, 5, 5, 7, 7, 0, 0};
        b.answersInTurn(out, 1, "verify other from", (d, k) -> d.verify(0, 1, k, true));
        b.answers("verify other, any bytes", d -> d.verify(4, 5, 1, true), 2);
        b.answers("verify other by none", d -> d.verify(0, 3, 3, true), 3);
        b.answers("verify other at the end of 200", d -> d.verify(2, 3, 200, true), 200);
        b.answers("verify other behind 200", d -> d.verify(2, 3, 201, true), 0);
        b.answers("verify other, a pad", d -> d.verify(6, 0, 1, true), 1);
    }

    private static void verifyNone() {
        Bench.sentence("Promise 21", "0 if none");
        Bench b = new Bench('-', "abcabcd", "xyz", "", "dcba", LONG, "x");
        b.answers("verify by others", d -> d.verify(0, 1, 1, false), 0);
        b.answers("verify by none", d -> d.verify(0, 2, 1, false), 0);
        b.answers("verify of none", d -> d.verify(2, 1, 1, false), 0);
        b.answers("verify of none by none", d -> d.verify(2, 2, 1, false), 0);
        b.answers("verify other by all", d -> d.verify(0, 3, 1, true), 0);
        b.answers("verify other of none", d -> d.verify(2, 1, 1, true), 0);
        b.answers("verify other of none by none", d -> d.verify(2, 2, 1, true), 0);
        b.answers("verify other of 200", d -> d.verify(4, 5, 1, true), 0);
    }

    private static void verifyPlaces() {
        Bench.sentence("Promise 21", "k (1 or more)");
        Bench b = new Bench('-', "abcabcd", "ca", "", LONG);
        for (boolean other : new boolean[] {false, true}) {
            for (int a : new int[] {0, 2, 3}) {
                b.answersEach(Bench.BELOW_1, "verify from", (d, k) -> d.verify(a, 1, k, other), NONE);
                b.answersEach(ABOVE_200, "verify from", (d, k) -> d.verify(a, 1, k, other), 0);
            }
        }
    }

    /** The bytes from .. up to below `to`, without those between the two that `but` names. */
    private static String bytesBut(int from, int to, String but) {
        StringBuilder bytes = new StringBuilder();
        for (char c = (char) from; c < to; c++) {
            if (but.isEmpty() || c < but.charAt(0) || c > but.charAt(1)) {
                bytes.append(c);
            }
        }
        return bytes.toString();
    }
}
