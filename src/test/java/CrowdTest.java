/** Promises 24 to 28: who is whose twin in a crowd, and what comes round in a ring. */
public final class CrowdTest {
    private static final int NONE = Check.NONE, UNKNOWN = Check.UNKNOWN, OUTSIDE = Check.OUTSIDE, FULL = Check.FULL;
    private static final Check check = new Check();

    public static void main(String[] args) {
        crowd();
        wince();
        pairings();
        twin();
        round();
        check.end();
    }

    private static void crowd() {
        check.promise(24);
        FeltByTwin x = new FeltByTwin();
        check.same("8", x.crowd(8), 4);
        check.same("2", x.crowd(2), 8);
        x.wince(0, 2);
        for (int wrong : new int[] {-2, 0, 1, 3, 5, 7, 9, 10}) {
            check.same("crowd(" + wrong + ")", x.crowd(wrong), OUTSIDE);
        }
        check.same("refusals changed nothing", x.count(5), 1);
        check.same("2 again", x.crowd(2), 2);
        check.same("winces are gone", x.count(5), 0);
        check.same("6", x.crowd(6), 2);
        check.same("the crowd", x.count(4), 6);
    }

    private static void wince() {
        check.promise(25);
        FeltByTwin x = new FeltByTwin();
        check.same("one 4", x.wince(4, 0), UNKNOWN);
        check.same("one -1", x.wince(-1, 0), UNKNOWN);
        check.same("unknown ahead of outside", x.wince(4, 16), UNKNOWN);
        check.same("set 16", x.wince(0, 16), OUTSIDE);
        check.same("set -1", x.wince(0, -1), OUTSIDE);
        for (int many = 1; many <= 8; many++) {
            check.same("wince " + many, x.wince(3, 15), many);
        }
        check.same("a ninth", x.wince(0, 0), FULL);
        check.same("unknown ahead of full", x.wince(4, 0), UNKNOWN);
        check.same("outside ahead of full", x.wince(0, 16), OUTSIDE);
        check.same("winces", x.count(5), 8);
        x.crowd(8);
        check.same("one 7", x.wince(7, 255), 1);
        check.same("set 256", x.wince(7, 256), OUTSIDE);
    }

    private static void pairings() {
        check.promise(26);
        FeltByTwin x = new FeltByTwin();
        int[] due = {1, 3, 15, 105};
        for (int i = 0; i < 4; i++) {
            x.crowd(2 * i + 2);
            check.same("of " + (2 * i + 2), x.pairings(), due[i]);
        }
        x.wince(7, 1);
        check.same("0 and 7 are twins", x.pairings(), 15);
        x.wince(1, 1 | 2 | 4 | 8);
        check.same("1 has 2 or 3", x.pairings(), 6);
        x.wince(1, 8 | 16);
        check.same("1 has 3", x.pairings(), 3);
        x.wince(4, 32);
        check.same("4 has 5", x.pairings(), 1);
        x.wince(5, 64);
        check.same("that can't be", x.pairings(), 0);
        FeltByTwin y = new FeltByTwin();
        y.wince(2, 4);
        check.same("nobody is its own twin", y.pairings(), 0);
    }

    private static void twin() {
        check.promise(27);
        FeltByTwin x = new FeltByTwin();
        check.same("several", x.twin(0), NONE);
        x.wince(0, 8 | 4);
        check.same("still several", x.twin(0), NONE);
        check.same("and of 1", x.twin(1), NONE);
        x.wince(1, 4 | 1);
        for (int one = 0; one < 4; one++) {
            check.same("twin(" + one + ")", x.twin(one), 3 - one);
        }
        x.wince(1, 1);
        for (int one = 0; one < 4; one++) {
            check.same("no pairings", x.twin(one), NONE);
        }
        check.same("one 4", x.twin(4), UNKNOWN);
        check.same("one -1", x.twin(-1), UNKNOWN);
        x.crowd(8);
        x.wince(6, 128);
        check.same("of 7", x.twin(7), 6);
        check.same("of 6", x.twin(6), 7);
        check.same("of 0", x.twin(0), NONE);
        check.same("one 8", x.twin(8), UNKNOWN);
        x.crowd(2);
        check.same("of two", x.twin(0), 1);
        check.same("and the other", x.twin(1), 0);
        check.same("one 2", x.twin(2), UNKNOWN);
    }

    private static void round() {
        check.promise(28);
        FeltByTwin x = new FeltByTwin();
        comesRound(x, 2, 5, 1, 2);
        comesRound(x, 3, 5, 1, 4);
        comesRound(x, 2, 0, 0, 1);
        comesRound(x, 9, 0, 0, 1);
        comesRound(x, 9, 9, 43046721, 100000000);
        comesRound(x, 9, 8, 65536, 390625);
        comesRound(x, 4, 1, 1, 1000);
        check.same("many 1", x.round(1, 0, 0), OUTSIDE);
        check.same("many 10", x.round(10, 0, 0), OUTSIDE);
        check.same("odds -1", x.round(2, -1, 0), OUTSIDE);
        check.same("odds 10", x.round(2, 10, 0), OUTSIDE);
        check.same("part -1", x.round(2, 1, -1), OUTSIDE);
        check.same("part 2", x.round(2, 1, 2), OUTSIDE);
    }

    private static void comesRound(FeltByTwin x, int many, int odds, long above, long below) {
        String call = "round(" + many + ", " + odds + ") ";
        check.same(call + "above", x.round(many, odds, 0), above);
        check.same(call + "below", x.round(many, odds, 1), below);
    }
}
