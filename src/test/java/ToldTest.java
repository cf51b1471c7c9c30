/** Promises 29 to 32: the image, counts, the digest. */
public final class ToldTest {
    private static final int NONE = Check.NONE, OUTSIDE = Check.OUTSIDE, STATE = Check.STATE;
    private static final Check check = new Check();

    public static void main(String[] args) {
        image();
        restore();
        restoreRefused();
        count();
        digest();
        check.end();
    }

    private static void image() {
        check.promise(29);
        FeltByTwin x = new FeltByTwin();
        check.same("none", x.image(), 0);
        x.touch(0, 1);
        x.touch(0, 2);
        check.same("two", x.image(), 2);
        x.forget();
        check.same("the latest", x.restore(), 2);
        x.forget();
        x.touch(3, 3);
        x.image();
        check.same("the latest again", x.restore(), 1);
        check.same("that one", x.about(3, 2), 1);
    }

    private static void restore() {
        check.promise(30);
        FeltByTwin x = check.with("01");
        x.touch(0, 1);
        x.town(5, 4);
        x.book(9);
        x.wince(0, 2);
        long before = x.digest();
        x.image();
        x.touch(1, 700);
        x.town(5, 3);
        x.town(9, 1);
        x.book(10);
        x.wince(1, 4);
        check.same("restore()", x.restore(), 1);
        check.same("the digest", x.digest(), before);
        x.forget();
        x.touch(7, 500);
        check.same("once more", x.restore(), 1);
        check.same("in its minute", x.felt(1, 1, 1), 1);
        check.same("the digest", x.digest(), before);
        x.road(0, 1, 5);
        Check.write(x, "23");
        x.kept(3, 0);
        x.restore();
        check.same("roads are not of it", x.count(2), 1);
        check.same("nor the page", x.count(6), 2);
        check.same("nor how often kept() was done", x.count(8), 1);
        check.same("nor how often births were read", x.count(7), 1);
        x.book(11);
        check.same("what it was made of goes its own way", x.count(3), 2);
        x.restore();
        check.same("and comes back", x.count(3), 1);
    }

    private static void restoreRefused() {
        FeltByTwin x = new FeltByTwin();
        check.same("none was kept", x.restore(), STATE);
        x.image();
        Check.write(x, "01");
        x.births();
        x.touch(0, 1);
        check.same("births were read", x.restore(), STATE);
        check.same("refusals changed nothing", x.count(1), 1);
        x.image();
        check.same("a new one", x.restore(), 1);
        Check.write(x, "0");
        x.births();
        x.crowd(3);
        check.same("births and a crowd were refused", x.restore(), 1);
        x.crowd(4);
        check.same("a crowd was told", x.restore(), STATE);
        x.image();
        check.same("and another one", x.restore(), 1);
    }

    private static void count() {
        check.promise(31);
        FeltByTwin x = check.with("01,23,o456");
        x.touch(0, 1);
        x.touch(0, 1);
        for (int town = 1; town < 6; town++) {
            x.road(0, town, 9);
        }
        x.road(0, 1, 0);
        for (int word = 0; word < 3; word++) {
            x.book(word);
        }
        x.crowd(6);
        x.wince(0, 1);
        Check.write(x, "0123456");
        x.kept(4, 0);
        x.kept(4, 0);
        int[] due = {3, 2, 4, 3, 6, 1, 7, 1, 2};
        for (int what = 0; what < due.length; what++) {
            check.same("count(" + what + ")", x.count(what), due[what]);
        }
        check.same("count(9)", x.count(9), OUTSIDE);
        check.same("count(-1)", x.count(-1), OUTSIDE);
    }

    private static void digest() {
        check.promise(32);
        long h = 577;
        for (int person = 0; person < 10; person++) {
            h = mix(h, 0, NONE, 0, 0);
        }
        h = mix(h, NONE);
        for (int from = 0; from < 6; from++) {
            for (int to = 0; to < 6; to++) {
                h = mix(h, from == to ? 0 : NONE);
            }
        }
        h = mix(h, 3, NONE, NONE, NONE, NONE);
        h = mix(h, 0, 0, 0, 0, 4, 0, 0, 0, 0);
        check.same("of a new one", new FeltByTwin().digest(), h);

        FeltByTwin x = check.with("+723");
        x.town(3, 5);
        x.road(0, 1, 2);
        for (int i = 0; i < 10; i++) {
            x.touch(2, 999);
        }
        x.book(200);
        x.book(100);
        x.crowd(2);
        x.wince(0, 3);
        Check.write(x, "~,");
        x.kept(50, 1);
        h = mix(577, 3, 2, 7, 2, 3, NONE, NONE);
        for (int person = 0; person < 10; person++) {
            boolean isBorn = person == 2 || person == 3;
            h = mix(h, person == 3 ? 5 : 0, isBorn ? 0 : NONE, person == 2 ? 10 : 0, person == 3 ? 10 : 0);
        }
        h = mix(h, 9);
        h = mix(h, 0, 2, NONE, NONE, NONE, 8);
        h = mix(h, 2, 0, NONE, NONE, NONE, 10);
        h = mix(h, NONE, NONE, 0, NONE, NONE, NONE);
        h = mix(h, NONE, NONE, NONE, 0, NONE, NONE);
        h = mix(h, NONE, NONE, NONE, NONE, 0, NONE);
        h = mix(h, 8, 10, NONE, NONE, NONE, 0);
        h = mix(h, 200, 100);
        h = mix(h, 1, 1, 0);
        h = mix(h, '~', ',');
        h = mix(h, 1, 10, 1, 2, 2, 1, 2, 1, 1);
        check.same("of one in use", x.digest(), h);
        check.same("it changes nothing", x.digest(), h);
    }

    private static long mix(long start, int... numbers) {
        long h = start;
        for (int number : numbers) {
            h = 31 * h + number;
        }
        return h;
    }
}
