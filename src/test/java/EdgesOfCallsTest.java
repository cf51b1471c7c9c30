import java.math.BigInteger;
import java.util.ArrayList;
import java.util.List;

/** Promises 1 to 32, sentence by sentence: what is empty, full, gone, done again, or none. */
public final class EdgesOfCallsTest {
    private static final int NONE = Check.NONE, UNKNOWN = Check.UNKNOWN, OUTSIDE = Check.OUTSIDE;
    private static final int STATE = Check.STATE, FULL = Check.FULL;
    private static final long EIGHT = 0x4847464544434241L;
    private static final Check check = new Check();

    public static void main(String[] args) {
        newObject();
        road();
        town();
        letters();
        blank();
        fault();
        births();
        birth();
        about();
        forget();
        over();
        kept();
        crowd();
        twin();
        image();
        restore();
        restoreSince();
        count();
        digest();
        lastCall();
        check.end();
    }

    private static void newObject() {
        check.promise(1);
        FeltByTwin x = new FeltByTwin();
        for (int a = 0; a < 6; a++) {
            for (int b = 0; b < 6; b++) {
                check.same("no roads", x.road(a, b, 0), a == b ? UNKNOWN : 0);
            }
        }
        check.same("no births", x.count(0), 0);
        check.same("none has a number", x.birth(0, 0), UNKNOWN);
        check.same("none is of a kind", x.as(0, 0), UNKNOWN);
        check.same("no touches", x.forget(), 0);
        check.same("an empty page", x.blank(), 0);
        check.same("an empty book", x.read(0, 0, 0, 0), UNKNOWN);
        check.same("no image", x.restore(), STATE);
        check.same("a crowd of 4", x.crowd(4), 4);
        FeltByTwin y = new FeltByTwin();
        check.same("one of 4", y.twin(3), NONE);
        check.same("none behind it", y.twin(4), UNKNOWN);
        check.same("no winces", y.count(5), 0);
        y.touch(0, 1);
        y.crowd(8);
        check.same("another new one has no touches", new FeltByTwin().count(1), 0);
        check.same("and a crowd of 4", new FeltByTwin().count(4), 4);
    }

    private static void road() {
        check.promise(2);
        FeltByTwin x = new FeltByTwin();
        check.same("none: none goes", x.road(0, 1, 0), 0);
        check.same("1", x.road(0, 1, 1), 0);
        check.same("the same again", x.road(0, 1, 1), 1);
        check.same("one road", x.count(2), 1);
        check.same("99", x.road(1, 0, 99), 1);
        check.same("still one road", x.count(2), 1);
        check.same("it goes", x.road(1, 0, 0), 99);
        check.same("no road", x.count(2), 0);
        for (int town = 0; town < 6; town++) {
            check.same("to itself", x.road(town, town, 0), UNKNOWN);
        }
        check.same("beyond, the same", x.road(6, 6, 0), UNKNOWN);
        check.same("no road still", x.count(2), 0);
    }

    private static void town() {
        check.promise(3);
        FeltByTwin x = new FeltByTwin();
        check.same("where it is already", x.town(9, 0), 0);
        check.same("to the last", x.town(9, 5), 0);
        check.same("where it is already", x.town(9, 5), 5);
        check.same("back to the first", x.town(9, 0), 5);
        check.same("both unknown", x.town(10, 6), UNKNOWN);
        check.same("nobody else went", x.about(8, 0), 0);
    }

    private static void letters() {
        check.promise(4);
        for (int many = 0; many <= 8; many++) {
            FeltByTwin x = new FeltByTwin();
            long w = many == 0 ? 0 : EIGHT >>> 8 * (8 - many);
            check.same(many + " letters", x.letters(w), many);
            check.same(many + " more", x.letters(w), 2 * many);
        }
        FeltByTwin x = new FeltByTwin();
        for (int full = 8; full <= 32; full += 8) {
            check.same("eight by eight", x.letters(0x7e7e7e7e7e7e7e7eL), full);
        }
        check.same("one too many", x.letters(1), FULL);
        check.same("eight too many", x.letters(EIGHT), FULL);
        check.same("none is not too many", x.letters(0), 32);
        check.same("outside ahead of full: a byte", x.letters(127), OUTSIDE);
        check.same("outside ahead of full: a gap", x.letters(0x100), OUTSIDE);
        check.same("32 stay", x.count(6), 32);
        FeltByTwin y = new FeltByTwin();
        Check.write(y, "012345678901234567890123456789");
        check.same("30", y.count(6), 30);
        check.same("three more don't fit", y.letters(0x414141), FULL);
        check.same("none of them is taken", y.count(6), 30);
        check.same("two more do", y.letters(0x4141), 32);
        FeltByTwin z = new FeltByTwin();
        check.same("the top byte, 126", z.letters(0x7e01010101010101L), 8);
        check.same("the top byte, 128", z.letters(0x8001010101010101L), OUTSIDE);
        check.same("all bytes 255", z.letters(-1L), OUTSIDE);
        check.same("a 0 first, then one at the top", z.letters(0x0100000000000000L), OUTSIDE);
        check.same("eight stay", z.count(6), 8);
    }

    private static void blank() {
        check.promise(5);
        FeltByTwin x = check.with("01");
        x.touch(0, 0);
        x.image();
        check.same("empty", x.blank(), 0);
        for (int i = 0; i < 4; i++) {
            x.letters(EIGHT);
        }
        check.same("full", x.blank(), 32);
        check.same("empty again", x.blank(), 0);
        check.same("no letter is left", x.fault(), 0);
        check.same("births stay", x.count(0), 1);
        check.same("touches stay", x.count(1), 1);
        check.same("the image stays", x.restore(), 1);
        for (int i = 1; i <= 4; i++) {
            check.same("there is room", x.letters(EIGHT), 8 * i);
        }
    }

    private static void faultOf(String text, int due) {
        FeltByTwin x = new FeltByTwin();
        Check.write(x, text);
        check.same("fault() of " + text, x.fault(), due);
        check.same("once more", x.fault(), due);
        check.same("letters stay", x.count(6), text.length());
    }

    private static void fault() {
        check.promise(6);
        faultOf("", 0);
        faultOf("x", 0);
        faultOf("~", 0);
        faultOf("\u0001", 0);
        faultOf("0x", 1);
        faultOf("01x", 2);
        faultOf("01,x", 3);
        faultOf("01,23,45,67,8x", 13);
        faultOf("01,23,45,67,89x", 14);
        faultOf("xx", 0);
        faultOf("0xx23", 1);
        // Full pages: the fault may be the first letter or the longest births' end.
        faultOf("x1,23,45,67,89,01,23,45,67,89,01", 0);
        faultOf("?112,?134,?156,?178,?190,?112,?1", 24);
        faultOf("o0123,o4567,?989,?9,?9,?9,?9,?9,", 19);
        // Which people are left does matter: each of them once.
        for (int person = 0; person <= 9; person++) {
            faultOf("o0123,o4567,89," + person, 15);
            faultOf("o0123,o4567,89,?1" + person, 17);
        }
        faultOf("o0123,o456,78,9", 15);
        faultOf("o0123,o456,78,97", 15);
        faultOf("o0123,o456,78,9,", 15);
    }

    private static void births() {
        check.promise(7);
        FeltByTwin x = check.with("o0123,o4567,89");
        for (int i = 0; i < 12; i++) {
            x.touch(i % 10, i);
        }
        x.town(0, 1);
        x.road(0, 1, 5);
        Check.write(x, "80");
        check.same("one in place of three", x.births(), 1);
        check.same("others are gone", x.birth(1, 0), UNKNOWN);
        check.same("with touches", x.count(1), 0);
        check.same("there is room for them", x.touch(8, 5), 1);
        check.same("0 was born with 8", x.felt(0, 5, 5), 1);
        check.same("1 with nobody", x.about(1, 1), NONE);
        check.same("9 with nobody", x.about(9, 1), NONE);
        check.same("the page is empty", x.count(6), 0);
        check.same("an empty page is none", x.births(), STATE);
        check.same("births stay then", x.count(0), 1);
        check.same("touches stay then", x.count(1), 1);
        check.same("towns stay", x.about(0, 0), 1);
        check.same("roads stay", x.count(2), 1);
        check.same("twice read", x.count(7), 2);
        Check.write(x, "80");
        check.same("the same again", x.births(), 1);
        check.same("touches are gone then too", x.count(1), 0);
        check.same("three times read", x.count(7), 3);
        Check.write(x, "01,");
        check.same("a page that is none", x.births(), STATE);
        check.same("stays", x.count(6), 3);
        Check.write(x, "23");
        check.same("and may be gone on with", x.births(), 2);
    }

    private static void birth() {
        check.promise(8);
        FeltByTwin x = check.with("98,o765,?943,+121");
        int[][] due = {{0, 2, 0, 9, 8, NONE, NONE}, {1, 3, 0, 7, 6, 5, NONE}, {2, 2, 9, 4, 3, NONE, NONE},
            {3, 2, 1, 2, 1, NONE, NONE}};
        for (int birth = 0; birth < 4; birth++) {
            for (int what = 0; what <= 6; what++) {
                check.same("birth(" + birth + ", " + what + ")", x.birth(birth, what), due[birth][what]);
            }
            check.same("what 7", x.birth(birth, 7), OUTSIDE);
            check.same("what -1", x.birth(birth, -1), OUTSIDE);
        }
        check.same("a ring of four has a fourth", check.with("o3210").birth(0, 6), 0);
        check.same("birth 4", x.birth(4, 0), UNKNOWN);
        check.same("birth -1", x.birth(-1, 0), UNKNOWN);
        check.same("both", x.birth(-1, -1), UNKNOWN);
        check.same("the fifth of five", check.with("01,23,45,67,98").birth(4, 3), 9);
    }

    private static void about() {
        check.promise(10);
        FeltByTwin x = check.with("01,23,45,67,89");
        for (int i = 0; i < 12; i++) {
            x.touch(9, 999);
        }
        check.same("its birth, the last", x.about(9, 1), 4);
        check.same("its birth, the first", x.about(0, 1), 0);
        check.same("all twelve", x.about(9, 2), 12);
        check.same("none", x.about(8, 2), 0);
    }

    private static void forget() {
        check.promise(12);
        FeltByTwin x = check.with("01");
        for (int i = 0; i < 12; i++) {
            x.touch(0, 5);
        }
        check.same("over", x.over(), 9);
        check.same("twelve", x.forget(), 12);
        check.same("none", x.forget(), 0);
        check.same("nobody has too many", x.over(), NONE);
        check.same("nothing is felt", x.felt(1, 0, 1999), 0);
        check.same("births stay", x.about(1, 1), 0);
        check.same("there is room", x.touch(0, 5), 1);
    }

    private static void over() {
        check.promise(15);
        FeltByTwin x = check.with("01");
        for (int i = 0; i < 9; i++) {
            x.touch(0, 10);
        }
        x.touch(2, 10);
        x.touch(0, 110);
        check.same("eleven, nine of one", x.over(), NONE);
        x.touch(1, 10);
        check.same("the last that can be, number 11", x.over(), 11);
        x.image();
        x.forget();
        check.same("forgotten", x.over(), NONE);
        x.restore();
        check.same("by number, as before", x.over(), 11);
    }

    private static void kept() {
        check.promise(18);
        FeltByTwin x = new FeltByTwin();
        for (int town = 1; town < 6; town++) {
            x.road(0, town, 1);
        }
        for (int done = 0; done < 20; done++) {
            check.same("outside isn't done", x.kept(-1, 0), OUTSIDE);
            check.same("nor is this", x.kept(2, 5), OUTSIDE);
            int minutes = done % 2 == 0 ? 2 : 0;
            check.same("done " + done, x.kept(minutes, 0), done % 2 == 0 ? 0 : NONE);
        }
        check.same("done 20 times", x.kept(2, 0), STATE);
        check.same("outside ahead of that", x.kept(1000, 0), OUTSIDE);
        check.same("outside ahead of that, too", x.kept(2, -1), OUTSIDE);
        check.same("20", x.count(8), 20);
        Check.write(x, "01");
        x.births();
        x.crowd(2);
        x.image();
        x.restore();
        check.same("that stays so", x.kept(2, 0), STATE);
    }

    private static void crowd() {
        check.promise(24);
        FeltByTwin x = new FeltByTwin();
        int[] crowds = {2, 8, 6, 4, 4, 2};
        int before = 4;
        for (int n : crowds) {
            x.wince(0, 0);
            check.same("crowd(" + n + ")", x.crowd(n), before);
            check.same("winces are gone", x.count(5), 0);
            check.same("they tell nothing any more", x.pairings(), n == 2 ? 1 : n == 4 ? 3 : n == 6 ? 15 : 105);
            before = n;
        }
        x.wince(0, 2);
        for (int n : new int[] {0, 1, 3, 5, 7, 9, 10, -2, -8}) {
            check.same("crowd(" + n + ")", x.crowd(n), OUTSIDE);
        }
        check.same("it is as it was", x.count(4), 2);
        check.same("with its wince", x.count(5), 1);
    }

    private static void twin() {
        check.promise(27);
        FeltByTwin x = new FeltByTwin();
        x.crowd(6);
        x.wince(0, 2 | 4);
        check.same("two may be", x.twin(0), NONE);
        x.wince(5, 8);
        check.same("one in all of several", x.twin(5), 3);
        check.same("and the other way", x.twin(3), 5);
        check.same("several still", x.pairings(), 2);
        check.same("of the others none", x.twin(4), NONE);
        x.wince(4, 2);
        check.same("the last", x.twin(0), 2);
        check.same("one is left", x.pairings(), 1);
        x.wince(2, 2);
        check.same("none is left", x.pairings(), 0);
        for (int one = 0; one < 6; one++) {
            check.same("no pairings", x.twin(one), NONE);
        }
    }

    private static void image() {
        check.promise(29);
        FeltByTwin x = new FeltByTwin();
        check.same("of nothing", x.image(), 0);
        x.touch(0, 0);
        check.same("it goes on from that", x.restore(), 0);
        check.same("no touches", x.count(1), 0);
        for (int i = 0; i < 12; i++) {
            x.touch(0, i);
        }
        check.same("of twelve", x.image(), 12);
        x.forget();
        check.same("the latest", x.restore(), 12);
        check.same("full again", x.touch(0, 0), FULL);
        x.forget();
        check.same("the latest is of none now", x.image(), 0);
        check.same("one is kept alone", x.restore(), 0);
    }

    private static void restore() {
        check.promise(30);
        FeltByTwin x = check.with("01,o234");
        x.crowd(8);
        for (int i = 0; i < 8; i++) {
            x.wince(i, 255);
            x.touch(i, 100 * i);
        }
        for (int word = 0; word < 4; word++) {
            x.book(word);
        }
        x.town(9, 5);
        x.image();
        long before = x.digest();
        x.forget();
        x.town(9, 4);
        for (int again = 0; again < 3; again++) {
            check.same("as often as one likes", x.restore(), 8);
            check.same("all is as it was", x.digest(), before);
            check.same("the book is full", x.book(4), FULL);
            check.same("winces are full", x.wince(0, 0), FULL);
            x.touch(0, again);
            x.town(again, 5);
        }
    }

    private static void restoreSince() {
        check.promise(30);
        FeltByTwin x = new FeltByTwin();
        x.image();
        Check.write(x, "01");
        check.same("letters don't matter", x.restore(), 0);
        x.fault();
        check.same("nor does fault()", x.restore(), 0);
        x.births();
        check.same("births do", x.restore(), STATE);
        x.touch(0, 3);
        check.same("a new image", x.image(), 1);
        x.births();
        check.same("births that are none don't", x.restore(), 1);
        x.crowd(5);
        check.same("a crowd that is none doesn't", x.restore(), 1);
        x.wince(0, 2);
        x.blank();
        x.kept(0, 0);
        x.road(0, 1, 1);
        check.same("winces, the page, kept(), roads don't", x.restore(), 1);
        x.crowd(8);
        check.same("a crowd does", x.restore(), STATE);
        check.same("touches stay then", x.count(1), 1);
        check.same("the crowd stays then", x.count(4), 8);
        x.crowd(4);
        check.same("the old crowd again doesn't help", x.restore(), STATE);
        check.same("a new image does", x.image(), 1);
        check.same("it goes on", x.restore(), 1);
        Check.write(x, "01");
        x.births();
        check.same("births that are the same were read, too", x.restore(), STATE);
    }

    private static void count() {
        check.promise(31);
        FeltByTwin x = check.with("01,23,45,67,89");
        for (int i = 0; i < 12; i++) {
            x.touch(i % 10, i);
        }
        for (int a = 0; a < 6; a++) {
            for (int b = 0; b < a; b++) {
                x.road(a, b, 99);
            }
        }
        for (int word = 0; word < 4; word++) {
            x.book(word);
        }
        x.crowd(8);
        for (int i = 0; i < 8; i++) {
            x.wince(i, 255);
        }
        for (int i = 0; i < 4; i++) {
            x.letters(EIGHT);
        }
        for (int i = 0; i < 20; i++) {
            x.kept(i, 0);
        }
        int[] most = {5, 12, 15, 4, 8, 8, 32, 1, 20};
        for (int what = 0; what <= 8; what++) {
            check.same("count(" + what + ") is as many as can be", x.count(what), most[what]);
        }
        check.same("count(9)", x.count(9), OUTSIDE);
        check.same("count(-1)", x.count(-1), OUTSIDE);
        FeltByTwin y = new FeltByTwin();
        for (int read = 1; read <= 40; read++) {
            Check.write(y, "01");
            y.births();
            y.births();
            check.same("how often births were read", y.count(7), read);
        }
    }

    /** The digest with numbers that never wrap, and the wrap at the end. */
    private static long digestOf(FeltByTwin x, int[] words, String page) {
        List<Long> all = new ArrayList<>();
        for (int birth = 0; birth < x.count(0); birth++) {
            for (int what = 0; what <= 6; what++) {
                all.add((long) x.birth(birth, what));
            }
        }
        for (int person = 0; person < 10; person++) {
            for (int what = 0; what <= 2; what++) {
                all.add((long) x.about(person, what));
            }
            all.add((long) x.felt(person, 0, 1999));
        }
        all.add((long) x.over());
        for (int from = 0; from < 6; from++) {
            for (int to = 0; to < 6; to++) {
                all.add((long) x.soonest(from, to));
            }
        }
        for (int word : words) {
            all.add((long) word);
        }
        all.add((long) x.pairings());
        for (int one = 0; one < x.count(4); one++) {
            all.add((long) x.twin(one));
        }
        for (char letter : page.toCharArray()) {
            all.add((long) letter);
        }
        for (int what = 0; what <= 8; what++) {
            all.add((long) x.count(what));
        }
        BigInteger h = BigInteger.valueOf(577);
        for (long number : all) {
            h = h.multiply(BigInteger.valueOf(31)).add(BigInteger.valueOf(number));
        }
        return h.longValue();
    }

    private static void digest() {
        check.promise(32);
        FeltByTwin x = new FeltByTwin();
        check.same("of a new one", x.digest(), digestOf(x, new int[0], ""));
        FeltByTwin y = check.with("o1234,?957,+968,09");
        y.touch(9, 0);
        for (int i = 1; i < 12; i++) {
            y.touch(i <= 10 ? 1 : 6, 998 + i % 2);
        }
        for (int person = 0; person < 10; person++) {
            y.town(person, person % 6);
        }
        y.road(0, 1, 99);
        int[] words = {255, 0, 7, 128};
        for (int word : words) {
            y.book(word);
        }
        y.crowd(8);
        y.wince(0, 128);
        String page = "o0123,~\u0001 ?9+1zZ01234567890123456";
        Check.write(y, page);
        y.kept(1, 0);
        check.same("letters are 32", y.count(6), 32);
        check.same("of one in use", y.digest(), digestOf(y, words, page));
        y.crowd(2);
        check.same("of a small crowd", y.digest(), digestOf(y, words, page));
        y.wince(1, 2);
        check.same("of no pairings", y.digest(), digestOf(y, words, page));
    }

    private static void lastCall() {
        check.promise(32);
        FeltByTwin x = new FeltByTwin();
        FeltByTwin y = new FeltByTwin();
        for (int made = 1; made <= 511; made++) {
            x.town(made % 10, made % 6);
        }
        for (int made = 502; made <= 511; made++) {
            y.town(made % 10, made % 6);
        }
        check.same("the 512th call", x.digest(), y.digest());
    }
}
