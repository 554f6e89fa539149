/** Promises 8 to 21: rows cut, filled, joined, searched, changed, turned. */
public final class RowsTest {
    private static final int NONE = Bench.NONE;
    private static final int FULL = Bench.FULL;
    private static final int GREATEST = Bench.GREATEST;
    private static final int LEAST = Bench.LEAST;
    private static final String LONG = "x".repeat(200);

    public static void main(String[] args) {
        fill();
        part();
        cut();
        join();
        copies();
        set();
        find();
        change();
        often();
        unlike();
        strip();
        turn();
        translate();
        verify();
        Bench.close();
    }

    private static void fill() {
        Bench b = new Bench('-', "abcde", "old", "");
        b.made("fill 0, longer", d -> d.fill(0, 0, 8, 3), 3, "abcde---");
        b.made("fill 0, shorter", d -> d.fill(0, 0, 2, 3), 3, "ab");
        b.made("fill 0, as it is", d -> d.fill(0, 0, 5, 3), 3, "abcde");
        b.made("fill 1, longer", d -> d.fill(1, 0, 8, 3), 3, "---abcde");
        b.made("fill 1, shorter", d -> d.fill(1, 0, 2, 3), 3, "de");
        b.made("fill 1, as it is", d -> d.fill(1, 0, 5, 3), 3, "abcde");
        b.made("fill 2, longer by 3", d -> d.fill(2, 0, 8, 3), 3, "-abcde--");
        b.made("fill 2, longer by 4", d -> d.fill(2, 0, 9, 3), 3, "--abcde--");
        b.made("fill 2, longer by 1", d -> d.fill(2, 0, 6, 3), 3, "abcde-");
        b.made("fill 2, shorter by 1", d -> d.fill(2, 0, 4, 3), 3, "abcd");
        b.made("fill 2, shorter by 2", d -> d.fill(2, 0, 3, 3), 3, "bcd");
        b.made("fill 2, shorter by 3", d -> d.fill(2, 0, 2, 3), 3, "bc");
        b.made("fill 2, as it is", d -> d.fill(2, 0, 5, 3), 3, "abcde");
        for (int way : new int[] {0, 1, 2}) {
            b.made("fill to none", d -> d.fill(way, 0, 0, 3), 3, "");
            b.made("fill of none", d -> d.fill(way, 2, 3, 3), 3, "---");
            b.made("fill to 200", d -> d.fill(way, 2, 200, 3), 3, "-".repeat(200));
            b.answers("fill to 201", d -> d.fill(way, 0, 201, 1), FULL);
            b.answers("fill to greatest", d -> d.fill(way, 0, GREATEST, 1), FULL);
            b.answers("fill to -1", d -> d.fill(way, 0, -1, 1), NONE);
            b.answers("fill to least", d -> d.fill(way, 0, LEAST, 1), NONE);
            b.answers("fill, no register a, 201", d -> d.fill(way, 10, 201, 1), NONE);
            b.answers("fill, no register to, 201", d -> d.fill(way, 0, 201, -1), NONE);
        }
        b.answers("fill way 3", d -> d.fill(3, 0, 2, 1), NONE);
        b.answers("fill way -1, 201", d -> d.fill(-1, 0, 201, 1), NONE);
        b.made("fill into itself", d -> d.fill(1, 0, 7, 0), 0, "--abcde");
        b.made("fill into itself, cut", d -> d.fill(1, 0, 3, 0), 0, "cde");
    }

    private static void part() {
        Bench b = new Bench('-', "abcde", "old");
        b.made("part 2, 3", d -> d.part(0, 2, 3, 2), 2, "bcd");
        b.made("part 4, 4", d -> d.part(0, 4, 4, 2), 2, "de--");
        b.made("part 5, 1", d -> d.part(0, 5, 1, 2), 2, "e");
        b.made("part 6, 2", d -> d.part(0, 6, 2, 2), 2, "--");
        b.made("part greatest, 2", d -> d.part(0, GREATEST, 2, 2), 2, "--");
        b.made("part greatest, 200", d -> d.part(0, GREATEST, 200, 2), 2, "-".repeat(200));
        b.made("part 3, NONE", d -> d.part(0, 3, NONE, 2), 2, "cde");
        b.made("part 1, NONE", d -> d.part(0, 1, NONE, 2), 2, "abcde");
        b.made("part 6, NONE", d -> d.part(0, 6, NONE, 2), 2, "");
        b.made("part greatest, NONE", d -> d.part(0, GREATEST, NONE, 2), 2, "");
        b.made("part 1, 0", d -> d.part(0, 1, 0, 2), 2, "");
        b.answers("part 1, 201", d -> d.part(0, 1, 201, 1), FULL);
        b.answers("part 1, greatest", d -> d.part(0, 1, GREATEST, 1), FULL);
        b.answers("part 0, 201", d -> d.part(0, 0, 201, 1), NONE);
        b.answers("part -1", d -> d.part(0, -1, 1, 1), NONE);
        b.answers("part 1, -2", d -> d.part(0, 1, -2, 1), NONE);
        b.answers("part 1, least", d -> d.part(0, 1, LEAST, 1), NONE);
        b.answers("part, no register a, 201", d -> d.part(-1, 1, 201, 1), NONE);
        b.answers("part, no register to, 201", d -> d.part(0, 1, 201, 10), NONE);
        b.made("part of itself", d -> d.part(0, 2, 5, 0), 0, "bcde-");
    }

    private static void cut() {
        Bench b = new Bench('-', "abcde", "old", LONG);
        b.made("cut 2, 3", d -> d.cut(0, 2, 3, 3), 3, "ae");
        b.made("cut 1, 1", d -> d.cut(0, 1, 1, 3), 3, "bcde");
        b.made("cut 5, 1", d -> d.cut(0, 5, 1, 3), 3, "abcd");
        b.made("cut 4, 9", d -> d.cut(0, 4, 9, 3), 3, "abc");
        b.made("cut 6, 1", d -> d.cut(0, 6, 1, 3), 3, "abcde");
        b.made("cut 2, 0", d -> d.cut(0, 2, 0, 3), 3, "abcde");
        b.made("cut 3, NONE", d -> d.cut(0, 3, NONE, 3), 3, "ab");
        b.made("cut 1, NONE", d -> d.cut(0, 1, NONE, 3), 3, "");
        b.made("cut 9, NONE", d -> d.cut(0, 9, NONE, 3), 3, "abcde");
        b.made("cut 2, greatest", d -> d.cut(0, 2, GREATEST, 3), 3, "a");
        b.made("cut greatest, greatest", d -> d.cut(0, GREATEST, GREATEST, 3), 3, "abcde");
        b.made("cut greatest, NONE", d -> d.cut(0, GREATEST, NONE, 3), 3, "abcde");
        b.made("cut of 200", d -> d.cut(2, 201, 1, 3), 3, LONG);
        b.answers("cut 0", d -> d.cut(0, 0, 1, 1), NONE);
        b.answers("cut least", d -> d.cut(0, LEAST, 1, 1), NONE);
        b.answers("cut 1, -2", d -> d.cut(0, 1, -2, 1), NONE);
        b.answers("cut, no register a", d -> d.cut(10, 1, 1, 1), NONE);
        b.answers("cut, no register to", d -> d.cut(0, 1, 1, -1), NONE);
        b.made("cut of itself", d -> d.cut(0, 2, 2, 0), 0, "ade");
    }

    private static void join() {
        Bench b = new Bench('-', "abc", "de", "", "y".repeat(100), "old");
        b.made("join 0", d -> d.join(0, 1, 0, 5), 5, "abcde");
        b.made("join 3", d -> d.join(0, 1, 3, 5), 5, "abc---de");
        b.made("join of none", d -> d.join(2, 2, 2, 5), 5, "--");
        b.made("join to 200", d -> d.join(3, 3, 0, 5), 5, "y".repeat(200));
        b.made("join to 200 by pads", d -> d.join(0, 1, 195, 5), 5, "abc" + "-".repeat(195) + "de");
        b.answers("join to 201", d -> d.join(3, 3, 1, 4), FULL);
        b.answers("join to 201 by pads", d -> d.join(0, 1, 196, 4), FULL);
        b.answers("join greatest", d -> d.join(0, 1, GREATEST, 4), FULL);
        b.answers("join -1", d -> d.join(3, 3, -1, 4), NONE);
        b.answers("join least", d -> d.join(0, 1, LEAST, 4), NONE);
        b.answers("join, no register a", d -> d.join(-1, 3, 200, 4), NONE);
        b.answers("join, no register b", d -> d.join(3, 10, 200, 4), NONE);
        b.answers("join, no register to", d -> d.join(3, 3, 200, 10), NONE);
        b.made("join into b", d -> d.join(0, 1, 1, 1), 1, "abc-de");
        b.made("join with itself", d -> d.join(0, 0, 1, 0), 0, "abc-abc");
    }

    private static void copies() {
        Bench b = new Bench('-', "abc", "", "ab".repeat(50), "old");
        b.made("copies 1", d -> d.copies(0, 1, 4), 4, "abc");
        b.made("copies 3", d -> d.copies(0, 3, 4), 4, "abcabcabc");
        b.made("copies 66", d -> d.copies(0, 66, 4), 4, "abc".repeat(66));
        b.made("copies 0", d -> d.copies(0, 0, 4), 4, "");
        b.made("copies to 200", d -> d.copies(2, 2, 4), 4, "ab".repeat(100));
        b.made("copies of none, greatest", d -> d.copies(1, GREATEST, 4), 4, "");
        b.answers("copies 67", d -> d.copies(0, 67, 3), FULL);
        b.answers("copies greatest", d -> d.copies(0, GREATEST, 3), FULL);
        b.answers("copies wrapping", d -> d.copies(2, 1 << 30, 3), FULL);
        b.answers("copies -1", d -> d.copies(0, -1, 3), NONE);
        b.answers("copies -1 of none", d -> d.copies(1, -1, 3), NONE);
        b.answers("copies, no register a", d -> d.copies(10, 67, 3), NONE);
        b.answers("copies, no register to", d -> d.copies(0, 67, 10), NONE);
        b.made("copies into itself", d -> d.copies(0, 2, 0), 0, "abcabc");
    }

    private static void set() {
        Bench b = new Bench('-', "AB", "abcde", "", LONG, "old");
        b.made("set in 0", d -> d.set(0, 1, 0, false, 5), 5, "ABabcde");
        b.made("set in 2", d -> d.set(0, 1, 2, false, 5), 5, "abABcde");
        b.made("set in 5", d -> d.set(0, 1, 5, false, 5), 5, "abcdeAB");
        b.made("set in 7", d -> d.set(0, 1, 7, false, 5), 5, "abcde--AB");
        b.made("set over 0", d -> d.set(0, 1, 0, true, 5), 5, "ABcde");
        b.made("set over 2", d -> d.set(0, 1, 2, true, 5), 5, "abABe");
        b.made("set over 3", d -> d.set(0, 1, 3, true, 5), 5, "abcAB");
        b.made("set over 4", d -> d.set(0, 1, 4, true, 5), 5, "abcdAB");
        b.made("set over 5", d -> d.set(0, 1, 5, true, 5), 5, "abcdeAB");
        b.made("set over 7", d -> d.set(0, 1, 7, true, 5), 5, "abcde--AB");
        b.made("set none in 7", d -> d.set(2, 1, 7, false, 5), 5, "abcde--");
        b.made("set none over 7", d -> d.set(2, 1, 7, true, 5), 5, "abcde--");
        b.made("set none over 2", d -> d.set(2, 1, 2, true, 5), 5, "abcde");
        b.made("set into none", d -> d.set(0, 2, 3, false, 5), 5, "---AB");
        b.made("set over of 200", d -> d.set(0, 3, 198, true, 5), 5, "x".repeat(198) + "AB");
        b.made("set in, to 200", d -> d.set(0, 1, 198, false, 5), 5, "abcde" + "-".repeat(193) + "AB");
        b.made("set over with 200", d -> d.set(3, 1, 0, true, 5), 5, LONG);
        b.made("set none in 200", d -> d.set(2, 3, 200, false, 5), 5, LONG);
        b.answers("set in 199", d -> d.set(0, 1, 199, false, 4), FULL);
        b.answers("set over 199", d -> d.set(0, 1, 199, true, 4), FULL);
        b.answers("set over 199 of 200", d -> d.set(0, 3, 199, true, 4), FULL);
        b.answers("set in 0 of 200", d -> d.set(0, 3, 0, false, 4), FULL);
        b.answers("set none in 201", d -> d.set(2, 1, 201, false, 4), FULL);
        b.answers("set none over 201", d -> d.set(2, 1, 201, true, 4), FULL);
        b.answers("set in greatest", d -> d.set(0, 1, GREATEST, false, 4), FULL);
        b.answers("set over greatest", d -> d.set(0, 1, GREATEST, true, 4), FULL);
        b.answers("set in -1", d -> d.set(0, 1, -1, false, 4), NONE);
        b.answers("set over -1, FULL too", d -> d.set(3, 3, -1, true, 4), NONE);
        b.answers("set, no register a", d -> d.set(-1, 3, 300, false, 4), NONE);
        b.answers("set, no register b", d -> d.set(3, 10, 300, false, 4), NONE);
        b.answers("set, no register to", d -> d.set(3, 3, 300, false, 10), NONE);
        b.made("set over itself", d -> d.set(1, 1, 2, true, 1), 1, "ababcde");
        b.made("set in itself", d -> d.set(0, 0, 1, false, 0), 0, "AABB");
    }

    private static void find() {
        Bench b = new Bench('-', "aa", "aaabaaa", "", "b", "aaabaaab", "c");
        int[] first = {0, 1, 2, 5, 5, 5, 6, 0, 0};
        int[] last = {0, 0, 1, 2, 2, 2, 5, 6, 6};
        for (int k : new int[] {1, 2, 3, 4, 5, 6, 7, 8}) {
            b.answers("find first " + k, d -> d.find(0, 1, k, false), first[k]);
            b.answers("find last " + k, d -> d.find(0, 1, k, true), last[k]);
        }
        b.answers("find last NONE", d -> d.find(0, 1, NONE, true), 6);
        b.answers("find last greatest", d -> d.find(0, 1, GREATEST, true), 6);
        b.answers("find first greatest", d -> d.find(0, 1, GREATEST, false), 0);
        b.answers("find itself", d -> d.find(1, 1, 1, false), 1);
        b.answers("find itself, last", d -> d.find(1, 1, NONE, true), 1);
        b.answers("find itself, last, 6", d -> d.find(1, 1, 6, true), 0);
        b.answers("find longer", d -> d.find(4, 1, 1, false), 0);
        b.answers("find longer, last", d -> d.find(4, 1, NONE, true), 0);
        b.answers("find what is not there", d -> d.find(5, 1, 1, false), 0);
        b.answers("find what is not there, last", d -> d.find(5, 1, NONE, true), 0);
        b.answers("find none", d -> d.find(2, 1, 1, false), 0);
        b.answers("find none, last", d -> d.find(2, 1, NONE, true), 0);
        b.answers("find none in none", d -> d.find(2, 2, 1, false), 0);
        b.answers("find none in none, last", d -> d.find(2, 2, NONE, true), 0);
        b.answers("find in none", d -> d.find(0, 2, 1, false), 0);
        b.answers("find in none, last", d -> d.find(0, 2, NONE, true), 0);
        b.answers("find one", d -> d.find(3, 4, 5, false), 8);
        b.answers("find one, last", d -> d.find(3, 4, 7, true), 4);
        int[] wrongPlaces = {0, -2, LEAST};
        for (int k : wrongPlaces) {
            b.answers("find " + k, d -> d.find(0, 1, k, false), NONE);
            b.answers("find last " + k, d -> d.find(0, 1, k, true), NONE);
            b.answers("find none, " + k, d -> d.find(2, 1, k, false), NONE);
        }
        b.answers("find first NONE", d -> d.find(0, 1, NONE, false), NONE);
        b.answers("find, no register a", d -> d.find(10, 1, 1, false), NONE);
        b.answers("find, no register b", d -> d.find(0, -1, 1, true), NONE);
        b.answers("find none, no register b", d -> d.find(2, 10, 1, true), NONE);
    }

    private static void change() {
        Bench b = new Bench('-', "aa", "aaabaaaa", "XYZ", "", "old", "ab".repeat(100), "b");
        b.made("change to longer", d -> d.change(0, 1, 2, 7), 7, "XYZabXYZXYZ");
        b.made("change to none", d -> d.change(0, 1, 3, 7), 7, "ab");
        b.made("change of none", d -> d.change(3, 1, 2, 7), 7, "aaabaaaa");
        b.made("change in none", d -> d.change(0, 3, 2, 7), 7, "");
        b.made("change to itself", d -> d.change(0, 1, 0, 7), 7, "aaabaaaa");
        b.made("change of all", d -> d.change(1, 1, 2, 7), 7, "XYZ");
        b.made("change, not there", d -> d.change(2, 1, 0, 7), 7, "aaabaaaa");
        b.made("change of 200", d -> d.change(6, 5, 3, 7), 7, "a".repeat(100));
        b.made("change of 200 to as long", d -> d.change(6, 5, 6, 7), 7, "ab".repeat(100));
        b.answers("change beyond 200", d -> d.change(6, 5, 2, 4), FULL);
        b.answers("change of 200 by itself", d -> d.change(6, 5, 5, 4), FULL);
        b.answers("change, no register a", d -> d.change(10, 5, 2, 4), NONE);
        b.answers("change, no register b", d -> d.change(6, 10, 2, 4), NONE);
        b.answers("change, no register c", d -> d.change(6, 5, -1, 4), NONE);
        b.answers("change, no register to", d -> d.change(6, 5, 2, 10), NONE);
        b.made("change into b", d -> d.change(0, 1, 2, 1), 1, "XYZabXYZXYZ");
        b.made("change into c", d -> d.change(0, 1, 6, 6), 6, "babbb");
        b.made("change into a", d -> d.change(0, 1, 2, 0), 0, "XYZabXYZXYZ");
        Bench edge = new Bench(32, "a", "a".repeat(100), "bb", "a".repeat(100) + "c");
        edge.made("change to 200", d -> d.change(0, 1, 2, 4), 4, "b".repeat(200));
        edge.answers("change to 201", d -> d.change(0, 3, 2, 4), FULL);
    }

    private static void often() {
        Bench b = new Bench('-', "aa", "aaabaaaaa", "", "aba", "ababababa", LONG, "x");
        b.answers("often", d -> d.often(0, 1), 3);
        b.answers("often, overlapping", d -> d.often(3, 4), 2);
        b.answers("often of none", d -> d.often(2, 1), 0);
        b.answers("often in none", d -> d.often(0, 2), 0);
        b.answers("often of none in none", d -> d.often(2, 2), 0);
        b.answers("often of itself", d -> d.often(1, 1), 1);
        b.answers("often of a longer one", d -> d.often(1, 0), 0);
        b.answers("often 200", d -> d.often(6, 5), 200);
        b.answers("often, no register a", d -> d.often(-1, 1), NONE);
        b.answers("often, no register b", d -> d.often(2, 10), NONE);
    }

    private static void unlike() {
        Bench b = new Bench('-', "abc", "abd", "abc--", "", "---", "abc--x", "abc  ", "\377bc");
        b.answers("unlike at 3", d -> d.unlike(0, 1), 3);
        b.answers("unlike, pads behind", d -> d.unlike(0, 2), 0);
        b.answers("unlike, pads behind a", d -> d.unlike(2, 0), 0);
        b.answers("unlike, none and pads", d -> d.unlike(3, 4), 0);
        b.answers("unlike behind the pads", d -> d.unlike(0, 5), 6);
        b.answers("unlike behind the pads of a", d -> d.unlike(5, 0), 6);
        b.answers("unlike, blanks are no pads", d -> d.unlike(0, 6), 4);
        b.answers("unlike itself", d -> d.unlike(1, 1), 0);
        b.answers("unlike none", d -> d.unlike(3, 3), 0);
        b.answers("unlike at 1", d -> d.unlike(0, 7), 1);
        b.answers("unlike none at 1", d -> d.unlike(3, 0), 1);
        new Bench(32, "abc", "abc  ").answers("unlike, blanks are pads", d -> d.unlike(0, 1), 0);
        b.answers("unlike, no register a", d -> d.unlike(10, 0), NONE);
        b.answers("unlike, no register b", d -> d.unlike(0, -1), NONE);
    }

    private static void strip() {
        Bench b = new Bench('-', "--a-b---", "----", "", " a ", "old");
        b.made("strip both", d -> d.strip(0, 0, 5), 5, "a-b");
        b.made("strip the begin", d -> d.strip(0, 1, 5), 5, "a-b---");
        b.made("strip the end", d -> d.strip(0, 2, 5), 5, "--a-b");
        for (int ends : new int[] {0, 1, 2}) {
            b.made("strip pads alone", d -> d.strip(1, ends, 5), 5, "");
            b.made("strip none", d -> d.strip(2, ends, 5), 5, "");
            b.made("strip blanks", d -> d.strip(3, ends, 5), 5, " a ");
        }
        b.answers("strip 3", d -> d.strip(0, 3, 4), NONE);
        b.answers("strip -1", d -> d.strip(0, -1, 4), NONE);
        b.answers("strip, no register a", d -> d.strip(10, 0, 4), NONE);
        b.answers("strip, no register to", d -> d.strip(0, 0, 10), NONE);
        b.made("strip itself", d -> d.strip(0, 0, 0), 0, "a-b");
    }

    private static void turn() {
        String odd = "`az{@AZ[\340\300\377\0 1bB";
        Bench b = new Bench('-', odd, "", "old", "cabbac\377\0\200\177c", LONG);
        b.made("turn about", d -> d.turn(0, 0, 5), 5, new StringBuilder(odd).reverse().toString());
        b.made("turn to capitals", d -> d.turn(1, 0, 5), 5, "`AZ{@AZ[\340\300\377\0 1BB");
        b.made("turn to small letters", d -> d.turn(2, 0, 5), 5, "`az{@az[\340\300\377\0 1bb");
        b.made("turn in order", d -> d.turn(3, 3, 5), 5, "\0aabbccc\177\200\377");
        b.made("turn, each once", d -> d.turn(4, 3, 5), 5, "cab\377\0\200\177");
        b.made("turn in order, 200", d -> d.turn(3, 4, 5), 5, LONG);
        b.made("turn, each once of 200", d -> d.turn(4, 4, 5), 5, "x");
        for (int how : new int[] {0, 1, 2, 3, 4}) {
            b.made("turn none", d -> d.turn(how, 1, 5), 5, "");
            b.answers("turn, no register a", d -> d.turn(how, 10, 2), NONE);
            b.answers("turn, no register to", d -> d.turn(how, 0, -1), NONE);
        }
        b.answers("turn 5", d -> d.turn(5, 0, 2), NONE);
        b.answers("turn -1", d -> d.turn(-1, 0, 2), NONE);
        b.made("turn itself about", d -> d.turn(0, 2, 2), 2, "dlo");
        b.made("turn itself in order", d -> d.turn(3, 2, 2), 2, "dlo");
        b.made("turn itself to capitals", d -> d.turn(1, 2, 2), 2, "OLD");
    }

    private static void translate() {
        Bench b = new Bench('-', "abcabcd", "XYZ", "abca", "", "old", "\377\0", "\0\377", "bbc", "bca");
        b.made("translate", d -> d.translate(0, 1, 2, 9), 9, "XYZXYZd");
        b.made("translate to none", d -> d.translate(0, 3, 2, 9), 9, "------d");
        b.made("translate by none", d -> d.translate(0, 1, 3, 9), 9, "abcabcd");
        b.made("translate none", d -> d.translate(3, 1, 2, 9), 9, "");
        b.made("translate, the first counts", d -> d.translate(0, 1, 7, 9), 9, "aXZaXZd");
        b.made("translate once alone", d -> d.translate(0, 8, 2, 9), 9, "bcabcad");
        b.made("translate edges", d -> d.translate(5, 6, 5, 9), 9, "\0\377");
        b.answers("translate, no register a", d -> d.translate(10, 1, 2, 4), NONE);
        b.answers("translate, no register b", d -> d.translate(0, 10, 2, 4), NONE);
        b.answers("translate, no register c", d -> d.translate(0, 1, -1, 4), NONE);
        b.answers("translate, no register to", d -> d.translate(0, 1, 2, 10), NONE);
        b.made("translate into c", d -> d.translate(0, 1, 2, 2), 2, "XYZXYZd");
        b.made("translate into b", d -> d.translate(0, 1, 0, 1), 1, "XYZXYZ-");
        b.made("translate into a", d -> d.translate(0, 4, 0, 0), 0, "oldold-");
    }

    private static void verify() {
        Bench b = new Bench('-', "abcabcd", "ca", "", "abcd", "\377\0x", "x\377");
        int[] in = {0, 1, 3, 3, 4, 6, 6, 0, 0};
        int[] out = {0, 2, 2, 5, 5, 5, 7, 7, 0};
        for (int k : new int[] {1, 2, 3, 4, 5, 6, 7, 8}) {
            b.answers("verify " + k, d -> d.verify(0, 1, k, false), in[k]);
            b.answers("verify other " + k, d -> d.verify(0, 1, k, true), out[k]);
        }
        b.answers("verify by none", d -> d.verify(0, 2, 1, false), 0);
        b.answers("verify other by none", d -> d.verify(0, 2, 3, true), 3);
        b.answers("verify of none", d -> d.verify(2, 1, 1, false), 0);
        b.answers("verify other of none", d -> d.verify(2, 2, 1, true), 0);
        b.answers("verify by all", d -> d.verify(0, 3, 1, true), 0);
        b.answers("verify edges", d -> d.verify(4, 5, 1, true), 2);
        b.answers("verify edges, in", d -> d.verify(4, 5, 1, false), 1);
        b.answers("verify greatest", d -> d.verify(0, 1, GREATEST, true), 0);
        b.answers("verify 0", d -> d.verify(0, 1, 0, false), NONE);
        b.answers("verify NONE", d -> d.verify(0, 1, NONE, true), NONE);
        b.answers("verify least", d -> d.verify(0, 1, LEAST, true), NONE);
        b.answers("verify, no register a", d -> d.verify(-1, 1, 1, false), NONE);
        b.answers("verify, no register b", d -> d.verify(0, 10, 1, false), NONE);
    }
}
