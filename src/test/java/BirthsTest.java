/** Promises 1 to 10: a new object, towns, THE PAGE, births. */
public final class BirthsTest {
    private static final int NONE = Check.NONE, UNKNOWN = Check.UNKNOWN, OUTSIDE = Check.OUTSIDE;
    private static final int STATE = Check.STATE, FULL = Check.FULL;
    private static final Check check = new Check();

    public static void main(String[] args) {
        newObject();
        road();
        town();
        letters();
        blank();
        fault();
        births();
        birth();
        as();
        about();
        check.end();
    }

    private static void newObject() {
        check.promise(1);
        check.same("NONE", FeltByTwin.NONE, NONE);
        check.same("UNKNOWN", FeltByTwin.UNKNOWN, UNKNOWN);
        check.same("OUTSIDE", FeltByTwin.OUTSIDE, OUTSIDE);
        check.same("STATE", FeltByTwin.STATE, STATE);
        check.same("FULL", FeltByTwin.FULL, FULL);
        FeltByTwin x = new FeltByTwin();
        for (int what = 0; what <= 8; what++) {
            check.same("count(" + what + ")", x.count(what), what == 4 ? 4 : 0);
        }
        for (int a = 0; a < 6; a++) {
            for (int b = 0; b < 6; b++) {
                check.same("soonest", x.soonest(a, b), a == b ? 0 : NONE);
            }
        }
        for (int p = 0; p < 10; p++) {
            check.same("its town", x.about(p, 0), 0);
            check.same("its birth", x.about(p, 1), NONE);
            check.same("its touches", x.about(p, 2), 0);
        }
        check.same("birth(0, 0)", x.birth(0, 0), UNKNOWN);
        check.same("restore()", x.restore(), STATE);
        check.same("over()", x.over(), NONE);
        check.same("pairings()", x.pairings(), 3);
    }

    private static void road() {
        check.promise(2);
        FeltByTwin x = new FeltByTwin();
        check.same("the first", x.road(0, 5, 99), 0);
        check.same("it is either way", x.road(5, 0, 1), 99);
        check.same("it goes", x.road(0, 5, 0), 1);
        check.same("it was gone", x.road(0, 5, 7), 0);
        check.same("minutes 100", x.road(0, 5, 100), OUTSIDE);
        check.same("minutes -1", x.road(0, 5, -1), OUTSIDE);
        check.same("a -1", x.road(-1, 5, 3), UNKNOWN);
        check.same("a 6", x.road(6, 5, 3), UNKNOWN);
        check.same("b -1", x.road(0, -1, 3), UNKNOWN);
        check.same("b 6", x.road(0, 6, 3), UNKNOWN);
        check.same("the same", x.road(2, 2, 3), UNKNOWN);
        check.same("the same, and outside", x.road(2, 2, 300), UNKNOWN);
        check.same("refusals changed nothing", x.road(0, 5, 7), 7);
        check.same("roads", x.count(2), 1);
    }

    private static void town() {
        check.promise(3);
        FeltByTwin x = new FeltByTwin();
        check.same("9 to 5", x.town(9, 5), 0);
        check.same("9 to 3", x.town(9, 3), 5);
        check.same("0 to 3", x.town(0, 3), 0);
        check.same("person 10", x.town(10, 3), UNKNOWN);
        check.same("person -1", x.town(-1, 3), UNKNOWN);
        check.same("town 6", x.town(9, 6), UNKNOWN);
        check.same("town -1", x.town(9, -1), UNKNOWN);
        check.same("9 stayed", x.town(9, 0), 3);
    }

    private static void letters() {
        check.promise(4);
        FeltByTwin x = new FeltByTwin();
        check.same("none", x.letters(0), 0);
        check.same("one", x.letters(126), 1);
        check.same("a byte 127", x.letters(127), OUTSIDE);
        check.same("a byte 128", x.letters(128), OUTSIDE);
        check.same("a byte 255 at the top", x.letters(0xff41414141414141L), OUTSIDE);
        check.same("one behind a 0", x.letters(0x410041L), OUTSIDE);
        check.same("a 0 at first", x.letters(0x4100L), OUTSIDE);
        check.same("eight", x.letters(0x4142434445464748L), 9);
        check.same("seven", x.letters(0x42434445464748L), 16);
        check.same("eight more", x.letters(0x4142434445464748L), 24);
        check.same("seven more", x.letters(0x42434445464748L), 31);
        check.same("above 32", x.letters(0x4142L), FULL);
        check.same("outside ahead of full", x.letters(0x8142L), OUTSIDE);
        check.same("refusals changed nothing", x.letters(0), 31);
        check.same("32", x.letters(1), 32);
        check.same("none more", x.letters(0), 32);
        check.same("33", x.letters(1), FULL);
        FeltByTwin y = new FeltByTwin();
        y.letters(0x3130L);
        y.births();
        check.same("the lowest byte is first", y.birth(0, 3), 0);
        check.same("the next one behind it", y.birth(0, 4), 1);
    }

    private static void blank() {
        check.promise(5);
        FeltByTwin x = new FeltByTwin();
        check.same("empty", x.blank(), 0);
        Check.write(x, "o0123,45");
        check.same("eight", x.blank(), 8);
        check.same("again", x.blank(), 0);
        check.same("letters", x.count(6), 0);
        check.same("from the start", x.letters(0x30), 1);
    }

    private static void fault() {
        check.promise(6);
        faultsOfBonds();
        faultsOfSigns();
        faultsOfMany();
    }

    private static void faultsOfBonds() {
        faultAt("", 0);
        faultAt("0", 1);
        faultAt("01", 2);
        faultAt("00", 1);
        faultAt("012", 2);
        faultAt("01,", 3);
        faultAt("01,,", 3);
        faultAt(",", 0);
        faultAt("0,", 1);
        faultAt("01,1", 3);
        faultAt("01,2", 4);
        faultAt("-", 0);
        faultAt("/", 0);
        faultAt(":", 0);
        faultAt("0 1", 1);
    }

    private static void faultsOfSigns() {
        faultAt("o01", 3);
        faultAt("o01,", 3);
        faultAt("o012,", 5);
        faultAt("o0123", 5);
        faultAt("o0123,", 6);
        faultAt("o01234", 5);
        faultAt("o0120", 4);
        faultAt("oo", 1);
        faultAt("o?", 1);
        faultAt("0o", 1);
        faultAt("?0", 1);
        faultAt("?1", 2);
        faultAt("?9", 2);
        faultAt("?112", 4);
        faultAt("?1123", 4);
        faultAt("?11,", 3);
        faultAt("?122", 3);
        faultAt("+0", 1);
        faultAt("+1", 2);
        faultAt("+901", 4);
        faultAt("+9012", 4);
        faultAt("+90+", 3);
        faultAt("O012", 0);
    }

    private static void faultsOfMany() {
        faultAt("01,23,45,67,89", 14);
        faultAt("01,23,45,67,89,", 14);
        faultAt("?112,?134,?156,?178,?190", 24);
        faultAt("?112,?134,?156,?178,?190,", 24);
        // How many people are left is not looked at.
        faultAt("o0123,o4567,89,", 15);
        faultAt("o0123,o4567,89,o", 16);
        faultAt("o0123,o4567,89,?5", 17);
        faultAt("o0123,o4567,89,0", 15);
        faultAt("o012,o345,o678,9", 16);
        faultAt("o012,o345,o678,o9", 17);
    }

    private static void faultAt(String text, int place) {
        FeltByTwin x = check.with("01");
        x.touch(0, 3);
        Check.write(x, text);
        check.same("fault() of " + text, x.fault(), place);
        check.same("births stay", x.birth(0, 4), 1);
        check.same("its people stay", x.about(1, 1), 0);
        check.same("touches stay", x.count(1), 1);
        check.same("letters stay", x.count(6), text.length());
    }

    private static void births() {
        check.promise(7);
        String[] none = {"", "0", "01,", "o01", "?51", "+0", "+5", "?5", "o", "00", "01,12", "012", "o01234",
            "?5012", "01,23,45,67,89,", "01,23,o4", "01,23,?45"};
        for (String text : none) {
            noBirths(text);
        }
        FeltByTwin x = check.with("01,23,45,67,89");
        x.touch(0, 1);
        x.town(3, 4);
        x.road(1, 2, 3);
        x.book(9);
        x.wince(0, 2);
        Check.write(x, "+912");
        check.same("births()", x.births(), 1);
        check.same("births", x.count(0), 1);
        check.same("touches", x.count(1), 0);
        check.same("roads stay", x.count(2), 1);
        check.same("the book stays", x.count(3), 1);
        check.same("winces stay", x.count(5), 1);
        check.same("letters", x.count(6), 0);
        check.same("how often read", x.count(7), 2);
        check.same("the old ones are gone", x.about(0, 1), NONE);
        check.same("towns stay", x.about(3, 0), 4);
        check.same("the page is empty now", x.births(), STATE);
        check.with("o012,+345,?678");
        check.with("o0123,o4567,89");
        check.with("?112,+134,?156,+178,?190");
    }

    private static void noBirths(String text) {
        FeltByTwin x = check.with("67,o012");
        x.touch(0, 1);
        x.image();
        Check.write(x, text);
        check.same("births() of " + text, x.births(), STATE);
        check.same("letters stay", x.count(6), text.length());
        check.same("births stay", x.count(0), 2);
        check.same("touches stay", x.count(1), 1);
        check.same("how often read", x.count(7), 1);
        check.same("the image stays", x.restore(), 1);
    }

    private static void birth() {
        check.promise(8);
        FeltByTwin x = check.with("73,o0214,?685");
        factsOf(x, 0, 0, 2, 0, 7, 3, NONE, NONE);
        factsOf(x, 1, 1, 4, 0, 0, 2, 1, 4);
        factsOf(x, 2, 2, 2, 6, 8, 5, NONE, NONE);
        check.same("birth(3, 0)", x.birth(3, 0), UNKNOWN);
        check.same("birth(-1, 0)", x.birth(-1, 0), UNKNOWN);
        check.same("unknown ahead of outside", x.birth(3, 7), UNKNOWN);
        check.same("what 7", x.birth(0, 7), OUTSIDE);
        check.same("what -1", x.birth(0, -1), OUTSIDE);
        FeltByTwin y = check.with("+901,o293");
        factsOf(y, 0, 3, 2, 9, 0, 1, NONE, NONE);
        factsOf(y, 1, 1, 3, 0, 2, 9, 3, NONE);
        Check.write(y, "45");
        y.births();
        factsOf(y, 0, 0, 2, 0, 4, 5, NONE, NONE);
        check.same("the second is gone", y.birth(1, 0), UNKNOWN);
        for (String births : new String[] {"+901,o234", "o987,?165", "01,23"}) {
            Check.write(y, births);
            y.births();
        }
        factsOf(y, 0, 0, 2, 0, 0, 1, NONE, NONE);
        factsOf(y, 1, 0, 2, 0, 2, 3, NONE, NONE);
    }

    private static void factsOf(FeltByTwin x, int birth, int... facts) {
        for (int what = 0; what < facts.length; what++) {
            check.same("birth(" + birth + ", " + what + ")", x.birth(birth, what), facts[what]);
        }
    }

    private static void as() {
        check.promise(9);
        FeltByTwin x = check.with("01,o234,?556,+778");
        for (int birth = 0; birth < 4; birth++) {
            for (int kind = 0; kind < 4; kind++) {
                int due = kind == 0 || kind == birth ? birth : NONE;
                check.same("as(" + birth + ", " + kind + ")", x.as(birth, kind), due);
            }
            check.same("kind 4", x.as(birth, 4), OUTSIDE);
            check.same("kind -1", x.as(birth, -1), OUTSIDE);
        }
        check.same("birth 4", x.as(4, 0), UNKNOWN);
        check.same("birth -1", x.as(-1, 0), UNKNOWN);
        check.same("unknown ahead of outside", x.as(4, 4), UNKNOWN);
    }

    private static void about() {
        check.promise(10);
        FeltByTwin x = check.with("01,o294");
        x.town(4, 5);
        x.touch(4, 7);
        x.touch(9, 7);
        x.touch(4, 8);
        x.touch(8, 8);
        check.same("the town of 4", x.about(4, 0), 5);
        check.same("the town of 9", x.about(9, 0), 0);
        check.same("the birth of 1", x.about(1, 1), 0);
        check.same("the birth of 9", x.about(9, 1), 1);
        check.same("the birth of 3", x.about(3, 1), NONE);
        check.same("touches of 4", x.about(4, 2), 2);
        check.same("touches of 8", x.about(8, 2), 1);
        check.same("what 2 feels is no touch", x.about(2, 2), 0);
        check.same("person 10", x.about(10, 0), UNKNOWN);
        check.same("person -1", x.about(-1, 0), UNKNOWN);
        check.same("what 3", x.about(4, 3), OUTSIDE);
        check.same("what -1", x.about(4, -1), OUTSIDE);
        check.same("unknown ahead of outside", x.about(10, 3), UNKNOWN);
        x.forget();
        check.same("touches are forgotten", x.about(4, 2), 0);
    }
}
