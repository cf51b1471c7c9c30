import java.util.ArrayList;
import java.util.Arrays;
import java.util.List;

/**
 * Every call that may be refused, with every number at its edges, beside them and far off, and all of these together:
 * the refusal that is told first is answered, nothing has changed behind it, and what is as told isn't refused.
 */
public final class RefusalsTest {
    private static final int UNKNOWN = Check.UNKNOWN, OUTSIDE = Check.OUTSIDE, STATE = Check.STATE, FULL = Check.FULL;
    private static final int NO_REFUSAL = 0;
    private static final Check check = new Check();

    private interface Call {
        long on(FeltByTwin x, int... numbers);
    }

    /** What a number of a call may be, and what is answered if it isn't. */
    private record Range(int refusal, int least, int most) {
        boolean has(int number) {
            return number >= least && number <= most;
        }

        int[] edges() {
            return new int[] {least, most, least - 1, most + 1, Integer.MIN_VALUE, Integer.MAX_VALUE};
        }
    }

    /** A way to make objects that are all alike, and what of the refusals hangs on it. */
    private enum State {
        NEW(0, 0, 4, false) {
            void lead(FeltByTwin x) {
            }
        },
        IN_USE(4, 2, 6, false) {
            void lead(FeltByTwin x) {
                Check.write(x, "01,o2345,?367,+989");
                x.births();
                x.crowd(6);
                live(x);
                x.image();
                x.touch(2, 100);
                x.town(0, 3);
                x.book(6);
                x.wince(5, 1);
                Check.write(x, "01,2");
            }
        },
        FULL_UP(5, 4, 8, true) {
            void lead(FeltByTwin x) {
                Check.write(x, "01,23,45,67,89");
                x.births();
                x.crowd(8);
                live(x);
                for (int i = 0; i < 12; i++) {
                    x.touch(i % 10, 83 * i);
                    x.wince(i % 8, 255 - i);
                    x.book(20 * i);
                }
                for (int i = 0; i < 20; i++) {
                    x.kept(i, 0);
                }
                for (int a = 0; a < 6; a++) {
                    for (int b = 0; b < a; b++) {
                        x.road(a, b, 10 * a + b);
                    }
                }
                x.image();
                Check.write(x, "o0123,o4567,89,o0123,o4567,89,o0");
            }
        };

        final int births;
        final int words;
        final int crowd;
        final boolean isFull;

        State(int births, int words, int crowd, boolean isFull) {
            this.births = births;
            this.words = words;
            this.crowd = crowd;
            this.isFull = isFull;
        }

        abstract void lead(FeltByTwin x);

        FeltByTwin make() {
            FeltByTwin x = new FeltByTwin();
            lead(x);
            return x;
        }

        private static void live(FeltByTwin x) {
            for (int person = 0; person < 10; person++) {
                x.town(person, person % 6);
            }
            x.road(0, 4, 99);
            x.road(4, 5, 1);
            x.touch(0, 0);
            x.touch(8, 999);
            x.book(5);
            x.wince(0, 14);
            x.kept(20, 0);
        }
    }

    private static State state;
    private static List<Long> unchanged;

    public static void main(String[] args) {
        for (State each : State.values()) {
            state = each;
            unchanged = Told.everything(state.make());
            statesAreAsMeant();
            towns();
            touches();
            news();
            words();
            crowds();
            told();
            letters();
            births();
            restore();
        }
        check.end();
    }

    private static void statesAreAsMeant() {
        FeltByTwin x = state.make();
        check.same(state + ": births", x.count(0), state.births);
        check.same(state + ": words", x.count(3), state.words);
        check.same(state + ": crowd", x.count(4), state.crowd);
        check.same(state + ": touches are full", x.count(1) == 12 ? 1 : 0, state.isFull ? 1 : 0);
        check.same(state + ": winces are full", x.count(5) == 8 ? 1 : 0, state.isFull ? 1 : 0);
        check.same(state + ": the book is full", x.count(3) == 4 ? 1 : 0, state.isFull ? 1 : 0);
        check.same(state + ": the page is full", x.count(6) == 32 ? 1 : 0, state.isFull ? 1 : 0);
        check.same(state + ": kept() is used up", x.count(8) == 20 ? 1 : 0, state.isFull ? 1 : 0);
    }

    private static Range unknown(int least, int most) {
        return new Range(UNKNOWN, least, most);
    }

    private static Range outside(int least, int most) {
        return new Range(OUTSIDE, least, most);
    }

    private static void towns() {
        check.promise(2);
        for (int[] numbers : all(unknown(0, 5), unknown(0, 5), outside(0, 99))) {
            int due = numbers[0] == numbers[1] ? UNKNOWN : NO_REFUSAL;
            judge("road", (x, n) -> x.road(n[0], n[1], n[2]), numbers,
                firstOf(numbers, due, unknown(0, 5), unknown(0, 5), outside(0, 99)));
        }
        for (int town = 0; town < 6; town++) {
            judge("road", (x, n) -> x.road(n[0], n[1], n[2]), new int[] {town, town, 5}, UNKNOWN);
            judge("road", (x, n) -> x.road(n[0], n[1], n[2]), new int[] {town, town, 100}, UNKNOWN);
        }
        check.promise(3);
        judgeAll("town", (x, n) -> x.town(n[0], n[1]), NO_REFUSAL, unknown(0, 9), unknown(0, 5));
        check.promise(8);
        judgeAll("birth", (x, n) -> x.birth(n[0], n[1]), NO_REFUSAL, unknown(0, state.births - 1), outside(0, 6));
        check.promise(9);
        judgeAll("as", (x, n) -> x.as(n[0], n[1]), NO_REFUSAL, unknown(0, state.births - 1), outside(0, 3));
        check.promise(10);
        judgeAll("about", (x, n) -> x.about(n[0], n[1]), NO_REFUSAL, unknown(0, 9), outside(0, 2));
    }

    private static void touches() {
        check.promise(11);
        judgeAll("touch", (x, n) -> x.touch(n[0], n[1]), state.isFull ? FULL : NO_REFUSAL,
            unknown(0, 9), outside(0, 999));
        for (int from : new int[] {0, 1, 998, 1999, -1, 2000, Integer.MIN_VALUE, Integer.MAX_VALUE}) {
            boolean isMinute = from >= 0 && from <= 1999;
            int due = isMinute ? NO_REFUSAL : OUTSIDE;
            Range ends = outside(isMinute ? from : 0, 1999);
            check.promise(13);
            judgeAll("felt from " + from + " ", (x, n) -> x.felt(n[0], from, n[1]), due, unknown(0, 9), ends);
            check.promise(14);
            judgeAll("surely from " + from + " ", (x, n) -> x.surely(n[0], from, n[1], n[2]), due,
                unknown(0, 9), ends, outside(0, 1));
        }
    }

    private static void news() {
        check.promise(16);
        judgeAll("soonest", (x, n) -> x.soonest(n[0], n[1]), NO_REFUSAL, unknown(0, 5), unknown(0, 5));
        check.promise(17);
        judgeAll("unseen", (x, n) -> x.unseen(n[0], n[1], n[2]), NO_REFUSAL,
            unknown(0, 5), unknown(0, 5), outside(0, 1023));
        check.promise(18);
        judgeAll("kept", (x, n) -> x.kept(n[0], n[1]), state.isFull ? STATE : NO_REFUSAL,
            outside(0, 999), outside(0, 4));
    }

    private static void words() {
        check.promise(19);
        judgeAll("words", (x, n) -> x.words(n[0], n[1], n[2]), NO_REFUSAL,
            outside(1, 8), outside(1, 3), outside(0, 8));
        check.promise(20);
        judgeAll("least", (x, n) -> x.least(n[0], n[1], n[2]), NO_REFUSAL,
            outside(1, 99999), outside(1, 3), outside(0, 8));
        check.promise(21);
        judgeAll("missed", (x, n) -> x.missed(n[0], n[1], n[2]), NO_REFUSAL,
            outside(1, 4), outside(0, 4), outside(0, 1));
        check.promise(22);
        // 255 is in no book here; 5 and perhaps 0 are.
        judge("book", (x, n) -> x.book(n[0]), new int[] {255}, state.isFull ? FULL : NO_REFUSAL);
        judge("book", (x, n) -> x.book(n[0]), new int[] {5}, state == State.NEW ? NO_REFUSAL : STATE);
        judge("book", (x, n) -> x.book(n[0]), new int[] {0}, state.isFull ? STATE : NO_REFUSAL);
        for (int word : new int[] {-1, 256, Integer.MIN_VALUE, Integer.MAX_VALUE}) {
            judge("book", (x, n) -> x.book(n[0]), new int[] {word}, OUTSIDE);
        }
        check.promise(23);
        judgeAll("read", (x, n) -> x.read(n[0], n[1], n[2], n[3]), NO_REFUSAL,
            unknown(0, state.words - 1), outside(0, 255), outside(0, 9), outside(0, 1));
    }

    private static void crowds() {
        check.promise(24);
        for (int n = -3; n <= 17; n++) {
            boolean isCrowd = n == 2 || n == 4 || n == 6 || n == 8;
            judge("crowd", (x, of) -> x.crowd(of[0]), new int[] {n}, isCrowd ? NO_REFUSAL : OUTSIDE);
        }
        judge("crowd", (x, of) -> x.crowd(of[0]), new int[] {Integer.MIN_VALUE}, OUTSIDE);
        judge("crowd", (x, of) -> x.crowd(of[0]), new int[] {Integer.MAX_VALUE}, OUTSIDE);
        check.promise(25);
        judgeAll("wince", (x, n) -> x.wince(n[0], n[1]), state.isFull ? FULL : NO_REFUSAL,
            unknown(0, state.crowd - 1), outside(0, (1 << state.crowd) - 1));
        check.promise(27);
        judgeAll("twin", (x, n) -> x.twin(n[0]), NO_REFUSAL, unknown(0, state.crowd - 1));
        check.promise(28);
        judgeAll("round", (x, n) -> x.round(n[0], n[1], n[2]), NO_REFUSAL,
            outside(2, 9), outside(0, 9), outside(0, 1));
    }

    private static void told() {
        check.promise(31);
        judgeAll("count", (x, n) -> x.count(n[0]), NO_REFUSAL, outside(0, 8));
    }

    private static void letters() {
        check.promise(4);
        for (int place = 0; place < 8; place++) {
            for (int code : new int[] {127, 128, 255}) {
                // Letters ahead of it and behind it are as told.
                long around = 0x4141414141414141L & ~(255L << 8 * place);
                lettersAre(around | (long) code << 8 * place, OUTSIDE);
                lettersAre((long) code << 8 * place, OUTSIDE);
            }
            lettersAre(126L << 8 * place, place > 0 ? OUTSIDE : state.isFull ? FULL : NO_REFUSAL);
            if (place < 7) {
                lettersAre(0x4141414141414141L & ~(255L << 8 * place), OUTSIDE);
                lettersAre(1L << 56 | (1L << 8 * place) - 1 & 0x4141414141414141L, OUTSIDE);
            }
        }
        lettersAre(0, NO_REFUSAL);
        lettersAre(-1, OUTSIDE);
        lettersAre(Long.MIN_VALUE, OUTSIDE);
        lettersAre(Long.MAX_VALUE, OUTSIDE);
        lettersAre(0x7e7e7e7e7e7e7e7eL, state.isFull ? FULL : NO_REFUSAL);
    }

    private static void lettersAre(long w, int due) {
        judge("letters " + w + " ", (x, n) -> x.letters(w), new int[0], due);
    }

    private static void births() {
        check.promise(7);
        judge("births", (x, n) -> x.births(), new int[0], STATE);
    }

    private static void restore() {
        check.promise(30);
        judge("restore", (x, n) -> x.restore(), new int[0], state == State.NEW ? STATE : NO_REFUSAL);
        for (int since = 0; since < 2 && state != State.NEW; since++) {
            FeltByTwin x = spoiled(since == 0);
            check.same(state + ": restore() behind births or a crowd", x.restore(), STATE);
            check.holds(state + ": that changed nothing",
                Told.everything(x).equals(Told.everything(spoiled(since == 0))));
        }
    }

    private static FeltByTwin spoiled(boolean byBirths) {
        FeltByTwin x = state.make();
        if (byBirths) {
            x.blank();
            Check.write(x, "09,18");
            x.births();
        } else {
            x.crowd(state.crowd);
        }
        x.touch(1, 1);
        return x;
    }

    /** All rows of numbers that have an edge of each range, or a number beside or far from it. */
    private static List<int[]> all(Range... ranges) {
        List<int[]> rows = new ArrayList<>();
        rows.add(new int[ranges.length]);
        for (int i = 0; i < ranges.length; i++) {
            List<int[]> longer = new ArrayList<>();
            for (int[] row : rows) {
                for (int edge : ranges[i].edges()) {
                    int[] more = row.clone();
                    more[i] = edge;
                    longer.add(more);
                }
            }
            rows = longer;
        }
        return rows;
    }

    /** UNKNOWN if a number names nothing, else OUTSIDE if one isn't as told, else what is left. */
    private static int firstOf(int[] numbers, int rest, Range... ranges) {
        int due = rest;
        for (int i = 0; i < ranges.length; i++) {
            if (!ranges[i].has(numbers[i]) && due != UNKNOWN) {
                due = ranges[i].refusal();
            }
        }
        return due;
    }

    private static void judgeAll(String name, Call call, int rest, Range... ranges) {
        for (int[] numbers : all(ranges)) {
            judge(name, call, numbers, firstOf(numbers, rest, ranges));
        }
    }

    private static void judge(String name, Call call, int[] numbers, int due) {
        FeltByTwin x = state.make();
        long got = call.on(x, numbers);
        String told = state + ": " + name + Arrays.toString(numbers);
        if (due == NO_REFUSAL) {
            check.holds(told + " is not refused, but answered " + got, got >= Check.NONE);
        } else {
            check.same(told, got, due);
            check.holds(told + " changed nothing", Told.everything(x).equals(unchanged));
        }
    }
}
