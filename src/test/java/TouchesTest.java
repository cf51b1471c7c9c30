/** Promises 11 to 15: touches, who feels them, the law. */
public final class TouchesTest {
    private static final int NONE = Check.NONE, UNKNOWN = Check.UNKNOWN, OUTSIDE = Check.OUTSIDE, FULL = Check.FULL;
    private static final Check check = new Check();

    public static void main(String[] args) {
        touch();
        forget();
        felt();
        surely();
        over();
        check.end();
    }

    private static void touch() {
        check.promise(11);
        FeltByTwin x = new FeltByTwin();
        check.same("minute -1", x.touch(0, -1), OUTSIDE);
        check.same("minute 1000", x.touch(0, 1000), OUTSIDE);
        check.same("person -1", x.touch(-1, 0), UNKNOWN);
        check.same("person 10", x.touch(10, 0), UNKNOWN);
        check.same("unknown ahead of outside", x.touch(10, 1000), UNKNOWN);
        for (int many = 1; many <= 12; many++) {
            check.same("touch " + many, x.touch(many % 10, many % 2 == 0 ? 999 : 0), many);
        }
        check.same("a thirteenth", x.touch(0, 0), FULL);
        check.same("unknown ahead of full", x.touch(10, 0), UNKNOWN);
        check.same("outside ahead of full", x.touch(0, 1000), OUTSIDE);
        check.same("refusals changed nothing", x.count(1), 12);
    }

    private static void forget() {
        check.promise(12);
        FeltByTwin x = check.with("01");
        check.same("none", x.forget(), 0);
        x.touch(0, 3);
        x.touch(1, 3);
        check.same("two", x.forget(), 2);
        check.same("again", x.forget(), 0);
        check.same("touches", x.count(1), 0);
        check.same("felt", x.felt(1, 0, 1999), 0);
        check.same("a new one", x.touch(0, 3), 1);
    }

    private static void felt() {
        check.promise(13);
        FeltByTwin x = check.with("01,o2345,?367,+989");
        x.touch(0, 10);
        x.touch(3, 99);
        x.touch(6, 20);
        x.touch(8, 999);
        feltAt(x, 1, 10);
        feltAt(x, 4, 100);
        feltAt(x, 5, 101);
        feltAt(x, 2, 102);
        feltAt(x, 7, 20);
        feltAt(x, 9, 1008);
        for (int touched : new int[] {0, 3, 6, 8}) {
            check.same("who was touched feels nothing", x.felt(touched, 0, 1999), 0);
        }
        x.touch(1, 10);
        x.touch(0, 10);
        x.touch(0, 11);
        check.same("each time counts", x.felt(1, 0, 10), 2);
        check.same("and later", x.felt(1, 0, 1999), 3);
        check.same("the other way", x.felt(0, 10, 10), 1);
        x.touch(5, 98);
        check.same("the first is behind the last", x.felt(2, 99, 99), 1);
        check.same("person -1", x.felt(-1, 0, 1), UNKNOWN);
        check.same("person 10", x.felt(10, 0, 1), UNKNOWN);
        check.same("unknown ahead of outside", x.felt(10, 2, 1), UNKNOWN);
        check.same("from -1", x.felt(0, -1, 1), OUTSIDE);
        check.same("from 2000", x.felt(0, 2000, 2000), OUTSIDE);
        check.same("to 2000", x.felt(0, 1999, 2000), OUTSIDE);
        check.same("to below from", x.felt(0, 2, 1), OUTSIDE);
        check.same("1999", x.felt(0, 1999, 1999), 0);
        FeltByTwin y = check.with("o123");
        y.touch(3, 5);
        feltAt(y, 1, 6);
        feltAt(y, 2, 7);
        y.touch(9, 5);
        check.same("nobody was born with 9", y.felt(9, 0, 1999), 0);
    }

    private static void feltAt(FeltByTwin x, int person, int minute) {
        check.same(person + " at " + minute, x.felt(person, minute, minute), 1);
        check.same(person + " up to it", x.felt(person, 0, minute), 1);
        check.same(person + " from it on", x.felt(person, minute, 1999), 1);
        check.same(person + " ahead of it", x.felt(person, 0, minute - 1), 0);
        check.same(person + " behind it", x.felt(person, minute + 1, 1999), 0);
    }

    private static void surely() {
        check.promise(14);
        FeltByTwin x = check.with("01,o234,?556,+189");
        for (int touched : new int[] {0, 2, 8}) {
            x.touch(touched, 10);
        }
        likely(x, 1, 0, 1999, 1, 1);
        likely(x, 0, 0, 1999, 0, 1);
        likely(x, 4, 12, 12, 1, 1);
        likely(x, 4, 10, 11, 0, 1);
        likely(x, 9, 11, 11, 1, 1);
        likely(x, 7, 0, 1999, 0, 1);
        x.touch(5, 10);
        likely(x, 6, 0, 1999, 1, 2);
        x.touch(5, 10);
        x.touch(5, 11);
        likely(x, 6, 10, 10, 3, 4);
        likely(x, 6, 0, 1999, 7, 8);
        likely(x, 5, 0, 1999, 0, 1);
        check.same("person 10", x.surely(10, 0, 1, 0), UNKNOWN);
        check.same("person -1", x.surely(-1, 0, 1, 0), UNKNOWN);
        check.same("unknown ahead of outside", x.surely(10, 0, 1, 2), UNKNOWN);
        check.same("from -1", x.surely(0, -1, 1, 0), OUTSIDE);
        check.same("to 2000", x.surely(0, 1, 2000, 0), OUTSIDE);
        check.same("to below from", x.surely(0, 2, 1, 0), OUTSIDE);
        check.same("part 2", x.surely(0, 0, 1, 2), OUTSIDE);
        check.same("part -1", x.surely(0, 0, 1, -1), OUTSIDE);
        FeltByTwin y = check.with("?101");
        for (int i = 0; i < 12; i++) {
            y.touch(0, 500);
        }
        likely(y, 1, 500, 500, 1000000000000L - 282429536481L, 1000000000000L);
        FeltByTwin z = check.with("?901");
        z.touch(1, 0);
        z.touch(1, 1);
        likely(z, 0, 0, 1, 99, 100);
    }

    private static void likely(FeltByTwin x, int person, int from, int to, long above, long below) {
        String call = "surely(" + person + ", " + from + ", " + to + ") ";
        check.same(call + "above", x.surely(person, from, to, 0), above);
        check.same(call + "below", x.surely(person, from, to, 1), below);
    }

    private static void over() {
        check.promise(15);
        FeltByTwin x = check.with("01,+123");
        for (int i = 0; i < 9; i++) {
            x.touch(0, 99 - i);
        }
        check.same("nine", x.over(), NONE);
        x.touch(0, 100);
        check.same("the tenth in another day", x.over(), NONE);
        x.touch(1, 0);
        check.same("what 1 felt and its own touch", x.over(), 10);
        x.touch(0, 50);
        check.same("it stays the first", x.over(), 10);
        FeltByTwin y = check.with("+123");
        for (int i = 0; i < 10; i++) {
            y.touch(2, i < 5 ? 299 : 300);
            y.touch(9, 900);
        }
        check.same("full: twelve, six of each", y.count(1), 12);
        check.same("nobody has more", y.over(), NONE);
        y.forget();
        for (int i = 0; i < 9; i++) {
            y.touch(2, 99);
        }
        y.touch(3, 100);
        check.same("3 feels nine in the next day and has its own", y.over(), 9);
        FeltByTwin z = check.with("?101,o234");
        for (int i = 0; i < 9; i++) {
            z.touch(0, 5);
        }
        check.same("all that may be", z.over(), NONE);
        z.touch(1, 5);
        check.same("of a faint too", z.over(), 9);
        z.forget();
        for (int i = 0; i < 12; i++) {
            z.touch(i % 3 + 2, 998);
        }
        check.same("some feel it a day later", z.over(), NONE);
        z.forget();
        for (int i = 0; i < 12; i++) {
            z.touch(i % 3 + 2, 997);
        }
        check.same("in a ring everybody has each", z.over(), 9);
        for (int alone : new int[] {0, 9}) {
            FeltByTwin w = check.with("+912");
            for (int i = 0; i < 12; i++) {
                w.touch(i == 5 ? 3 : alone, 900 + 9 * i);
            }
            check.same(alone + " alone, late", w.over(), 10);
        }
        FeltByTwin last = check.with("+912");
        for (int i = 0; i < 12; i++) {
            last.touch(2 - i % 2, 999 - i % 2);
        }
        check.same("each has six, and feels six in the day behind it", last.over(), NONE);
    }
}
