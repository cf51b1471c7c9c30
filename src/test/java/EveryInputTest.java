import java.util.Arrays;

/** Calls whose answers hang on their numbers alone, tried with all that are told and with those beside them. */
public final class EveryInputTest {
    private static final Check check = new Check();
    // What an object answers behind its 512th call is free, so a new one is asked in time.
    private static final int CALLS = 512;
    private static FeltByTwin x = new FeltByTwin();
    private static PlainTwin plain = new PlainTwin();
    private static int made;

    public static void main(String[] args) {
        allWords();
        allMissed();
        allRounds();
        allReads();
        allLimits();
        check.end();
    }

    /** Makes sure that so many more calls may be made; the new object has the same book. */
    private static void need(int calls, int... words) {
        made += calls;
        if (made <= CALLS) {
            return;
        }
        x = new FeltByTwin();
        plain = new PlainTwin();
        made = calls + words.length;
        for (int word : words) {
            check.same("book(" + word + ")", x.book(word), plain.book(word));
        }
    }

    private static void allWords() {
        for (int t = 0; t <= 9; t++) {
            for (int p = 0; p <= 4; p++) {
                for (int k = -1; k <= 9; k++) {
                    need(4);
                    int many = plain.words(t, p, k);
                    String told = t + ", " + p + ", " + k + ")";
                    check.same("words(" + told, x.words(t, p, k), many);
                    for (int n = Math.max(0, many - 1); n <= many + 1; n++) {
                        check.same("least(" + n + ", " + p + ", " + k + ")", x.least(n, p, k), plain.least(n, p, k));
                    }
                }
            }
        }
    }

    private static void allMissed() {
        for (int t = 0; t <= 5; t++) {
            for (int e = -1; e <= 5; e++) {
                for (int what = -1; what <= 2; what++) {
                    need(1);
                    String told = t + ", " + e + ", " + what;
                    check.same("missed(" + told + ")", x.missed(t, e, what), plain.missed(t, e, what));
                }
            }
        }
    }

    private static void allRounds() {
        for (int k = 1; k <= 10; k++) {
            for (int odds = -1; odds <= 10; odds++) {
                for (int part = -1; part <= 2; part++) {
                    need(1);
                    String told = k + ", " + odds + ", " + part;
                    check.same("round(" + told + ")", x.round(k, odds, part), plain.round(k, odds, part));
                }
            }
        }
    }

    private static void allReads() {
        int[] words = {255, 0, 5, 129};
        for (int many = 0; many <= words.length; many++) {
            int[] book = Arrays.copyOf(words, many);
            made = CALLS;
            need(1, book);
            for (int came = -1; came <= 256; came++) {
                for (int odds = -1; odds <= 10; odds++) {
                    need(12, book);
                    readsOf(came, odds);
                }
            }
        }
    }

    private static void readsOf(int came, int odds) {
        for (int word = -1; word <= 4; word++) {
            for (int part = 0; part <= 1; part++) {
                check.same("read(" + word + ", " + came + ", " + odds + ", " + part + ")",
                    x.read(word, came, odds, part), plain.read(word, came, odds, part));
            }
        }
    }

    private static void allLimits() {
        int[] edges = {Integer.MIN_VALUE, -1, 0, 1, 2, 3, 4, 5, 6, 9, 10, 99, 100, 255, 256, 999, 1000, 1023, 1024,
            1999, 2000, 99999, 100000, Integer.MAX_VALUE};
        for (int a : edges) {
            need(2);
            check.same("count(" + a + ")", x.count(a), plain.count(a));
            check.same("twin(" + a + ")", x.twin(a), plain.twin(a));
            for (int b : edges) {
                need(9);
                check.same("birth(" + a + ", " + b + ")", x.birth(a, b), plain.birth(a, b));
                check.same("as(" + a + ", " + b + ")", x.as(a, b), plain.as(a, b));
                check.same("about(" + a + ", " + b + ")", x.about(a, b), plain.about(a, b));
                check.same("town(" + a + ", " + b + ")", x.town(a, b), plain.town(a, b));
                check.same("touch(" + a + ", " + b + ")", x.touch(a, b), plain.touch(a, b));
                check.same("wince(" + a + ", " + b + ")", x.wince(a, b), plain.wince(a, b));
                check.same("soonest(" + a + ", " + b + ")", x.soonest(a, b), plain.soonest(a, b));
                check.same("kept(" + a + ", " + b + ")", x.kept(a, b), plain.kept(a, b));
                check.same("digest()", x.digest(), plain.digest());
                allLimits(a, b, edges);
            }
        }
    }

    private static void allLimits(int a, int b, int[] edges) {
        for (int c : edges) {
            need(6);
            String told = "(" + a + ", " + b + ", " + c + ")";
            check.same("road" + told, x.road(a, b, c), plain.road(a, b, c));
            check.same("unseen" + told, x.unseen(a, b, c), plain.unseen(a, b, c));
            check.same("felt" + told, x.felt(a, b, c), plain.felt(a, b, c));
            check.same("surely" + told + " above", x.surely(a, b, c, 0), plain.surely(a, b, c, 0));
            check.same("surely" + told + " part 2", x.surely(a, b, c, 2), plain.surely(a, b, c, 2));
            check.same("least" + told, x.least(a, b, c), plain.least(a, b, c));
        }
    }
}
