/** Promises 16 to 18: how soon news go, unseen, and where pairs should be kept. */
public final class NewsTest {
    private static final int NONE = Check.NONE, UNKNOWN = Check.UNKNOWN, OUTSIDE = Check.OUTSIDE, STATE = Check.STATE;
    private static final Check check = new Check();

    public static void main(String[] args) {
        soonest();
        unseen();
        kept();
        keptWhere();
        keptForTownZero();
        check.end();
    }

    private static void put(FeltByTwin x, int... towns) {
        for (int person = 0; person < towns.length; person++) {
            x.town(person, towns[person]);
        }
    }

    private static void soonest() {
        check.promise(16);
        FeltByTwin x = check.with("01,o234,?556,+489");
        put(x, 0, 1, 1, 2, 3, 3, 4, 0, 3, 5);
        check.same("the same", x.soonest(4, 4), 0);
        check.same("a bond", x.soonest(0, 1), 1);
        check.same("and back", x.soonest(1, 0), 1);
        check.same("the next in a ring", x.soonest(1, 2), 2);
        check.same("the one behind that", x.soonest(1, 3), 3);
        check.same("round to the first", x.soonest(3, 1), 2);
        check.same("round from the middle", x.soonest(2, 1), 3);
        check.same("a late one", x.soonest(3, 5), 5);
        check.same("and back", x.soonest(5, 3), 5);
        check.same("a faint one isn't sure", x.soonest(3, 4), NONE);
        check.same("by all of them", x.soonest(0, 5), 9);
        check.same("never from 4", x.soonest(4, 0), NONE);
        x.road(4, 2, 99);
        check.same("by road", x.soonest(4, 2), 99);
        check.same("by road, and on", x.soonest(4, 5), 106);
        x.road(4, 5, 1);
        check.same("a nearer road", x.soonest(4, 2), 9);
        check.same("back", x.soonest(2, 4), 8);
        x.touch(0, 5);
        check.same("touches don't matter", x.soonest(0, 1), 1);
        check.same("from -1", x.soonest(-1, 0), UNKNOWN);
        check.same("from 6", x.soonest(6, 0), UNKNOWN);
        check.same("to -1", x.soonest(0, -1), UNKNOWN);
        check.same("to 6", x.soonest(0, 6), UNKNOWN);
        FeltByTwin y = new FeltByTwin();
        for (int town = 0; town < 5; town++) {
            y.road(town, town + 1, 99);
        }
        check.same("as long as can be", y.soonest(0, 5), 495);
    }

    private static void unseen() {
        check.promise(17);
        FeltByTwin x = check.with("01,o234,+556");
        put(x, 0, 1, 1, 2, 0, 0, 1);
        x.road(0, 1, 60);
        check.same("nobody watches", x.unseen(0, 1, 0), 1);
        check.same("0 is seen", x.unseen(0, 1, 1), 2);
        check.same("1, its twin, is seen", x.unseen(0, 1, 2), 2);
        check.same("both births are seen", x.unseen(0, 1, 1 | 8), 6);
        check.same("by its last one", x.unseen(0, 1, 1 | 16), 6);
        check.same("all are seen", x.unseen(0, 1, 1023), 60);
        check.same("who has no twin doesn't matter", x.unseen(0, 1, 128 | 256 | 512), 1);
        check.same("never", x.unseen(0, 2, 4), NONE);
        check.same("the same town", x.unseen(2, 2, 1023), 0);
        check.same("set 1024", x.unseen(0, 1, 1024), OUTSIDE);
        check.same("set -1", x.unseen(0, 1, -1), OUTSIDE);
        check.same("from 6", x.unseen(6, 0, 0), UNKNOWN);
        check.same("to -1", x.unseen(0, -1, 0), UNKNOWN);
        check.same("unknown ahead of outside", x.unseen(0, 6, 1024), UNKNOWN);
        check.same("it isn't kept in mind", x.soonest(0, 1), 1);
    }

    private static void kept() {
        check.promise(18);
        FeltByTwin x = new FeltByTwin();
        check.same("minutes -1", x.kept(-1, 0), OUTSIDE);
        check.same("minutes 1000", x.kept(1000, 0), OUTSIDE);
        check.same("what 5", x.kept(0, 5), OUTSIDE);
        check.same("what -1", x.kept(0, -1), OUTSIDE);
        check.same("refusals are not done", x.count(8), 0);
        for (int done = 1; done <= 20; done++) {
            check.same("not by two", x.kept(999, done % 5), NONE);
            check.same("done", x.count(8), done);
        }
        check.same("a twenty-first", x.kept(999, 0), STATE);
        check.same("outside ahead of state", x.kept(1000, 0), OUTSIDE);
        check.same("done", x.count(8), 20);
    }

    private static void keptWhere() {
        FeltByTwin x = new FeltByTwin();
        for (int town = 0; town < 5; town++) {
            x.road(town, town + 1, 10);
        }
        keptAre(x, 50, 0, NONE, NONE, NONE, NONE);
        // A pair in place of the first road will do; for 21 minutes the line must become a ring.
        keptAre(x, 49, 1, 0, 1, NONE, NONE);
        keptAre(x, 21, 1, 0, 5, NONE, NONE);
        keptAre(x, 0, NONE, NONE, NONE, NONE, NONE);
        FeltByTwin y = check.with("01,+323,?945");
        put(y, 0, 1, 2, 3, 4, 5);
        y.road(1, 2, 1);
        keptAre(y, 999, 2, 0, 4, 0, 5);
        keptAre(y, 6, 2, 1, 4, 1, 5);
        y.road(4, 5, 99);
        keptAre(y, 999, 1, 0, 4, NONE, NONE);
    }

    /** Rings go one way alone: with fewer pairs, or earlier ones, only ways from or to town 0 are too long. */
    private static void keptForTownZero() {
        FeltByTwin x = check.with("o0179,o3652");
        put(x, 2, 3, 5, 1, 1, 4, 2, 4, 1, 5);
        x.road(5, 0, 3);
        x.road(1, 0, 2);
        x.road(1, 3, 3);
        keptAre(x, 4, 2, 0, 1, 0, 2);
        FeltByTwin y = check.with("o012");
        put(y, 4, 5, 3);
        y.road(1, 4, 1);
        y.road(4, 5, 1);
        keptAre(y, 4, 2, 0, 4, 2, 4);
    }

    private static void keptAre(FeltByTwin x, int minutes, int... due) {
        for (int what = 0; what < due.length; what++) {
            check.same("kept(" + minutes + ", " + what + ")", x.kept(minutes, what), due[what]);
        }
    }
}
