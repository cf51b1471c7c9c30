import java.util.ArrayList;
import java.util.List;

/** All that an object tells, so that two of them can be compared. It uses the object up: some calls change it. */
final class Told {
    private static final int[][] SPANS = {{0, 0}, {1, 99}, {100, 100}, {101, 998}, {999, 999}, {1000, 1999}};

    private final FeltByTwin x;
    private final List<Long> answers = new ArrayList<>();

    private Told(FeltByTwin x) {
        this.x = x;
    }

    static List<Long> everything(FeltByTwin x) {
        Told told = new Told(x);
        told.asItIs();
        told.afterRestore();
        told.goingOn();
        return told.answers;
    }

    private void add(long answer) {
        answers.add(answer);
    }

    private void asItIs() {
        add(x.digest());
        add(x.fault());
        for (int person = 0; person < 10; person++) {
            for (int[] span : SPANS) {
                add(x.felt(person, span[0], span[1]));
            }
            add(x.surely(person, 0, 1999, 0));
            add(x.surely(person, 0, 1999, 1));
        }
        for (int from = 0; from < 6; from++) {
            for (int to = 0; to < 6; to++) {
                add(x.unseen(from, to, 1023));
            }
        }
    }

    private void afterRestore() {
        add(x.restore());
        add(x.digest());
        for (int person = 0; person < 10; person++) {
            add(x.felt(person, 0, 99));
        }
    }

    private void goingOn() {
        add(x.kept(50, 0));
        add(x.touch(1, 5));
        add(x.wince(0, 2));
        add(x.book(77));
        add(x.letters(','));
        add(x.digest());
        for (int a = 0; a < 6; a++) {
            for (int b = 0; b < a; b++) {
                add(x.road(a, b, 0));
            }
        }
        add(x.births());
        add(x.crowd(2));
        add(x.digest());
    }
}
