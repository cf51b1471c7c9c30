/** Promises 19 to 23: words of pinches, how many, how long, which can be told apart, how sure one is. */
public final class WordsTest {
    private static final int NONE = Check.NONE, UNKNOWN = Check.UNKNOWN, OUTSIDE = Check.OUTSIDE;
    private static final int STATE = Check.STATE, FULL = Check.FULL;
    private static final Check check = new Check();

    public static void main(String[] args) {
        words();
        least();
        missed();
        book();
        read();
        check.end();
    }

    private static void words() {
        check.promise(19);
        FeltByTwin x = new FeltByTwin();
        check.same("none may be pinched", x.words(8, 3, 0), 1);
        check.same("one minute, one place", x.words(1, 1, 8), 2);
        check.same("one minute, three places", x.words(1, 3, 1), 4);
        check.same("one pinch", x.words(8, 3, 1), 25);
        check.same("two pinches", x.words(3, 2, 2), 19);
        check.same("more than fit", x.words(3, 2, 8), 27);
        check.same("all", x.words(8, 3, 8), 65536);
        check.same("all but one pinch", x.words(8, 3, 7), 65536 - 6561);
        check.same("minutes 0", x.words(0, 1, 1), OUTSIDE);
        check.same("minutes 9", x.words(9, 1, 1), OUTSIDE);
        check.same("places 0", x.words(1, 0, 1), OUTSIDE);
        check.same("places 4", x.words(1, 4, 1), OUTSIDE);
        check.same("pinches -1", x.words(1, 1, -1), OUTSIDE);
        check.same("pinches 9", x.words(1, 1, 9), OUTSIDE);
    }

    private static void least() {
        check.promise(20);
        FeltByTwin x = new FeltByTwin();
        check.same("no news", x.least(1, 1, 0), 1);
        check.same("never without a pinch", x.least(2, 3, 0), NONE);
        check.same("just so many", x.least(19, 2, 2), 3);
        check.same("one more", x.least(20, 2, 2), 4);
        check.same("the most", x.least(65536, 3, 8), 8);
        check.same("not by 8", x.least(65537, 3, 8), NONE);
        check.same("news 99999", x.least(99999, 3, 8), NONE);
        check.same("news 100000", x.least(100000, 3, 8), OUTSIDE);
        check.same("news 0", x.least(0, 3, 8), OUTSIDE);
        check.same("places 0", x.least(1, 0, 1), OUTSIDE);
        check.same("places 4", x.least(1, 4, 1), OUTSIDE);
        check.same("pinches -1", x.least(1, 1, -1), OUTSIDE);
        check.same("pinches 9", x.least(1, 1, 9), OUTSIDE);
    }

    private static void missed() {
        check.promise(21);
        apart(1, 0, 2, 3);
        apart(1, 1, 1, 1);
        apart(2, 0, 4, 15);
        apart(2, 1, 2, 9);
        apart(2, 2, 1, 1);
        apart(3, 0, 8, 255);
        apart(3, 1, 2, 9);
        apart(3, 2, 2, 129);
        apart(4, 0, 16, 65535);
        apart(4, 1, 4, 1 | 1 << 6 | 1 << 9 | 1 << 15);
        apart(4, 3, 2, 1 | 1 << 15);
        apart(4, 4, 1, 1);
        FeltByTwin x = new FeltByTwin();
        check.same("minutes 0", x.missed(0, 0, 0), OUTSIDE);
        check.same("minutes 5", x.missed(5, 0, 0), OUTSIDE);
        check.same("missed -1", x.missed(1, -1, 0), OUTSIDE);
        check.same("missed 5", x.missed(1, 5, 0), OUTSIDE);
        check.same("what -1", x.missed(1, 0, -1), OUTSIDE);
        check.same("what 2", x.missed(1, 0, 2), OUTSIDE);
    }

    private static void apart(int minutes, int missed, int many, int which) {
        FeltByTwin x = new FeltByTwin();
        check.same("missed(" + minutes + ", " + missed + ", 0)", x.missed(minutes, missed, 0), many);
        check.same("missed(" + minutes + ", " + missed + ", 1)", x.missed(minutes, missed, 1), which);
    }

    private static void book() {
        check.promise(22);
        FeltByTwin x = new FeltByTwin();
        check.same("255", x.book(255), 1);
        check.same("256", x.book(256), OUTSIDE);
        check.same("-1", x.book(-1), OUTSIDE);
        check.same("255 again", x.book(255), STATE);
        check.same("0", x.book(0), 2);
        check.same("0 again", x.book(0), STATE);
        check.same("7", x.book(7), 3);
        check.same("8", x.book(8), 4);
        check.same("a fifth", x.book(9), FULL);
        check.same("state ahead of full", x.book(8), STATE);
        check.same("outside ahead of full", x.book(256), OUTSIDE);
        check.same("words", x.count(3), 4);
    }

    private static void read() {
        check.promise(23);
        FeltByTwin x = new FeltByTwin();
        check.same("no book", x.read(0, 0, 0, 0), UNKNOWN);
        x.book(3);
        x.book(1);
        x.book(5);
        likely(x, 0, 1, 5, 1, 4);
        likely(x, 1, 1, 5, 1, 2);
        likely(x, 2, 1, 5, 1, 4);
        likely(x, 0, 3, 5, 1, 1);
        likely(x, 1, 3, 5, 0, 1);
        likely(x, 1, 1, 0, 1, 1);
        likely(x, 0, 1, 0, 0, 1);
        likely(x, 0, 0, 0, NONE, NONE);
        likely(x, 0, 8, 9, NONE, NONE);
        likely(x, 1, 0, 9, 5, 14);
        likely(x, 0, 0, 9, 9, 28);
        check.same("word 3", x.read(3, 0, 0, 0), UNKNOWN);
        check.same("word -1", x.read(-1, 0, 0, 0), UNKNOWN);
        check.same("unknown ahead of outside", x.read(3, 256, 10, 2), UNKNOWN);
        check.same("came 256", x.read(0, 256, 0, 0), OUTSIDE);
        check.same("came -1", x.read(0, -1, 0, 0), OUTSIDE);
        check.same("odds 10", x.read(0, 0, 10, 0), OUTSIDE);
        check.same("odds -1", x.read(0, 0, -1, 0), OUTSIDE);
        check.same("part 2", x.read(0, 0, 0, 2), OUTSIDE);
        check.same("part -1", x.read(0, 0, 0, -1), OUTSIDE);
        FeltByTwin y = new FeltByTwin();
        y.book(255);
        y.book(0);
        likely(y, 0, 0, 9, 43046721, 143046721);
        likely(y, 1, 0, 9, 100000000, 143046721);
    }

    private static void likely(FeltByTwin x, int word, int came, int odds, long above, long below) {
        String call = "read(" + word + ", " + came + ", " + odds + ") ";
        check.same(call + "above", x.read(word, came, odds, 0), above);
        check.same(call + "below", x.read(word, came, odds, 1), below);
    }
}
