/** "What it is" and "Terms", sentence by sentence: how many there are of each, from which number to which. */
public final class EdgesOfTermsTest {
    private static final int NONE = Check.NONE, UNKNOWN = Check.UNKNOWN, OUTSIDE = Check.OUTSIDE;
    private static final int STATE = Check.STATE, FULL = Check.FULL;
    private static final Check check = new Check();

    public static void main(String[] args) {
        townsAreSix();
        roadsTakeOneTo99EitherWay();
        peopleAreTen();
        birthsAreOneToFive();
        digitsAreTwoToFour();
        peopleAreUnlike();
        signsStandFirst();
        tenthsAndMinutesAreOneToNine();
        everyKindIsABirth();
        whoFeelsWhen();
        ringsGoRound();
        whatOneFeelsIsNoTouch();
        touchesAreTwelve();
        feltFromAMinuteToAnother();
        surelyAtItsEdges();
        lawIsNineInADay();
        daysAreHundredMinutes();
        everyPersonHasEveryDay();
        newsByTouch();
        newsByRoad();
        unseenBySet();
        keptPairs();
        keptIsEveryPair();
        wordsOfMinutes();
        missedRows();
        bookOfFour();
        readByOdds();
        crowdOfPairs();
        winces();
        round();
        imageKeeps();
        check.end();
    }

    private static void put(FeltByTwin x, int... towns) {
        for (int person = 0; person < towns.length; person++) {
            x.town(person, towns[person]);
        }
    }

    private static void townsAreSix() {
        check.promise(3);
        FeltByTwin x = new FeltByTwin();
        for (int town = 0; town <= 5; town++) {
            check.same("into town " + town, x.town(0, town), Math.max(0, town - 1));
        }
        check.same("there is no town 6", x.town(0, 6), UNKNOWN);
        check.same("there is no town -1", x.town(0, -1), UNKNOWN);
        check.same("it is still in the last one", x.about(0, 0), 5);
    }

    private static void roadsTakeOneTo99EitherWay() {
        check.promise(2);
        FeltByTwin x = new FeltByTwin();
        for (int a = 0; a <= 5; a++) {
            for (int b = 0; b < a; b++) {
                check.same("none at first", x.road(a, b, 0), 0);
                check.same("told one way", x.road(a, b, 99 - 6 * a - b), 0);
                check.same("there the other way", x.road(b, a, 10 * a + b), 99 - 6 * a - b);
                check.same("and back", x.road(a, b, 10 * a + b), 10 * a + b);
            }
        }
        check.same("fifteen at most", x.count(2), 15);
        FeltByTwin y = new FeltByTwin();
        y.road(5, 0, 99);
        check.same("99, as told", y.soonest(5, 0), 99);
        check.same("99, the other way", y.soonest(0, 5), 99);
        check.same("100 is too many", y.road(5, 0, 100), OUTSIDE);
        check.same("-1 is too few", y.road(5, 0, -1), OUTSIDE);
        check.same("it still takes 99", y.soonest(5, 0), 99);
        y.road(5, 0, 1);
        check.same("1", y.soonest(0, 5), 1);
        check.same("0: it was 1", y.road(0, 5, 0), 1);
        check.same("0: there is none", y.soonest(0, 5), NONE);
        check.same("0: none is counted", y.count(2), 0);
        check.same("0 again", y.road(0, 5, 0), 0);
        check.same("0 again: none is counted", y.count(2), 0);
    }

    private static void peopleAreTen() {
        check.promise(10);
        FeltByTwin x = new FeltByTwin();
        for (int person = 0; person <= 9; person++) {
            check.same(person + " is in town 0 at first", x.about(person, 0), 0);
        }
        check.same("there is no 10", x.about(10, 0), UNKNOWN);
        check.same("there is no -1", x.about(-1, 0), UNKNOWN);
    }

    private static void areBirths(String text, int many) {
        FeltByTwin x = new FeltByTwin();
        Check.write(x, text);
        check.same("fault() of " + text, x.fault(), text.length());
        check.same("births() of " + text, x.births(), many);
        check.same("count(0) of " + text, x.count(0), many);
    }

    /** A text that is none, though it may be the beginning of one. */
    private static void areNone(String text, int fault) {
        FeltByTwin x = written(text);
        FeltByTwin y = written(text);
        check.same("fault() of " + text, x.fault(), fault);
        check.same("births() of " + text, x.births(), STATE);
        check.holds("that changed nothing: " + text, Told.everything(x).equals(Told.everything(y)));
    }

    private static FeltByTwin written(String text) {
        FeltByTwin x = check.with("o987,?312");
        x.touch(9, 7);
        x.image();
        x.touch(1, 8);
        Check.write(x, text);
        return x;
    }

    private static void birthsAreOneToFive() {
        check.promise(7);
        areNone("", 0);
        areBirths("01", 1);
        areBirths("01,23", 2);
        areBirths("01,23,45", 3);
        areBirths("01,23,45,67", 4);
        areBirths("01,23,45,67,89", 5);
        areNone("01,23,45,67,89,", 14);
        areNone("01,23,45,67,89,01", 14);
        areNone(",", 0);
        areNone(",01", 0);
        areNone("01,", 3);
        areNone("01,,23", 3);
        areNone("01;23", 2);
        areNone("01 ", 2);
        areNone(" 01", 0);
        areBirths("?901,+923,?945,+967,?989", 5);
        areNone("?901,+923,?945,+967,?989,", 24);
    }

    private static void digitsAreTwoToFour() {
        check.promise(7);
        areNone("0", 1);
        areBirths("09", 1);
        areNone("012", 2);
        areNone("o", 1);
        areNone("o0", 2);
        areNone("o01", 3);
        areBirths("o012", 1);
        areBirths("o0123", 1);
        areNone("o01234", 5);
        areNone("o01,23", 3);
        areNone("?1", 2);
        areNone("?10", 3);
        areBirths("?109", 1);
        areNone("?1012", 4);
        areNone("+1", 2);
        areNone("+10", 3);
        areBirths("+109", 1);
        areNone("+1012", 4);
        areNone("0/", 1);
        areNone("0:", 1);
        areNone("/0", 0);
        areNone(":0", 0);
    }

    private static void peopleAreUnlike() {
        check.promise(7);
        areNone("00", 1);
        areNone("99", 1);
        areNone("o010", 3);
        areNone("o0122", 4);
        areNone("o0120", 4);
        areNone("?344", 3);
        areNone("+344", 3);
        areNone("01,02", 3);
        areNone("01,20", 4);
        areNone("o0123,43", 7);
        areNone("01,23,45,67,80", 13);
        areNone("o0123,o4567,89,0", 15);
        areBirths("?112", 1);
        areBirths("+221,?134", 2);
    }

    private static void signsStandFirst() {
        check.promise(6);
        areNone("0o", 1);
        areNone("0?", 1);
        areNone("0+", 1);
        areNone("01o", 2);
        areNone("01?", 2);
        areNone("01+", 2);
        areNone("oo", 1);
        areNone("o?", 1);
        areNone("o+", 1);
        areNone("??", 1);
        areNone("?o", 1);
        areNone("?1?", 2);
        areNone("+1o", 2);
        areNone("++", 1);
        areNone("O012", 0);
        areNone("n012", 0);
        areNone("p012", 0);
        areNone("01,O", 3);
        // How many people are left is not looked at, so a sign may stand where nobody is left.
        areNone("o0123,o4567,89,", 15);
        areNone("o0123,o4567,89,o", 16);
        areNone("o0123,o4567,89,?9", 17);
        areNone("o0123,o4567,89,+", 16);
        areNone("o0123,o4567,8", 13);
        areNone("o012,o345,o678,o9", 17);
    }

    private static void tenthsAndMinutesAreOneToNine() {
        check.promise(8);
        areNone("?001", 1);
        areNone("+001", 1);
        areNone("?,", 1);
        areNone("+,", 1);
        areNone("?1,", 2);
        areNone("+1,", 2);
        for (int amount = 1; amount <= 9; amount++) {
            FeltByTwin x = check.with("?" + amount + "01,+" + amount + "23");
            check.same("tenths", x.birth(0, 2), amount);
            check.same("minutes", x.birth(1, 2), amount);
        }
        FeltByTwin y = check.with("90,o123");
        check.same("0: of a bond", y.birth(0, 2), 0);
        check.same("0: of a ring", y.birth(1, 2), 0);
    }

    private static void everyKindIsABirth() {
        check.promise(9);
        FeltByTwin x = check.with("+101,?123,o456,78");
        int[] kinds = {3, 2, 1, 0};
        for (int birth = 0; birth < 4; birth++) {
            check.same("its kind", x.birth(birth, 0), kinds[birth]);
            check.same("as a birth", x.as(birth, 0), birth);
            check.same("as what it is", x.as(birth, kinds[birth]), birth);
        }
        check.same("a late one is no ring", x.as(0, 1), NONE);
        check.same("a faint one is no late one", x.as(1, 3), NONE);
        check.same("a ring is no faint one", x.as(2, 2), NONE);
        check.same("a bond is no ring", x.as(3, 1), NONE);
        check.same("a bond is no faint one", x.as(3, 2), NONE);
        check.same("a bond is no late one", x.as(3, 3), NONE);
    }

    private static void feelsOnlyAt(FeltByTwin x, int person, int minute) {
        check.same(person + " feels it at " + minute, x.felt(person, minute, minute), 1);
        check.same(person + " feels it once", x.felt(person, 0, 1999), 1);
    }

    private static void whoFeelsWhen() {
        check.promise(13);
        for (int minute : new int[] {0, 999}) {
            for (int first = 0; first < 2; first++) {
                FeltByTwin x = check.with("01,?123,+145,+967");
                for (int birth = 0; birth < 4; birth++) {
                    x.touch(2 * birth + first, minute);
                }
                feelsOnlyAt(x, 1 - first, minute);
                feelsOnlyAt(x, 3 - first, minute);
                feelsOnlyAt(x, 5 - first, minute + 1);
                feelsOnlyAt(x, 7 - first, minute + 9);
                for (int birth = 0; birth < 4; birth++) {
                    check.same("who was touched", x.felt(2 * birth + first, 0, 1999), 0);
                }
            }
        }
        FeltByTwin y = check.with("01");
        y.touch(5, 5);
        for (int person = 0; person < 10; person++) {
            check.same("5 has no twin", y.felt(person, 0, 1999), 0);
        }
    }

    private static void ringsGoRound() {
        check.promise(13);
        int[] order = {7, 2, 9, 0};
        for (int many = 3; many <= 4; many++) {
            for (int touched = 0; touched < many; touched++) {
                FeltByTwin x = check.with(many == 3 ? "o729" : "o7290");
                x.touch(order[touched], 999);
                check.same("it doesn't come back", x.felt(order[touched], 0, 1999), 0);
                for (int later = 1; later < many; later++) {
                    feelsOnlyAt(x, order[(touched + later) % many], 999 + later);
                }
                check.same("nobody else feels it", x.felt(5, 0, 1999), 0);
            }
        }
        FeltByTwin y = check.with("o729");
        y.touch(0, 3);
        check.same("0 isn't in a ring of three", y.felt(7, 0, 1999), 0);
    }

    private static void whatOneFeelsIsNoTouch() {
        check.promise(10);
        FeltByTwin x = check.with("01,o2345");
        x.touch(0, 3);
        x.touch(2, 3);
        for (int person : new int[] {1, 3, 4, 5}) {
            check.same(person + " was not touched", x.about(person, 2), 0);
            check.same(person + " feels it", x.felt(person, 0, 1999), 1);
        }
        check.same("0 feels nothing back", x.felt(0, 0, 1999), 0);
        check.same("two touches", x.count(1), 2);
    }

    private static void touchesAreTwelve() {
        check.promise(11);
        FeltByTwin x = check.with("01");
        check.same("minute -1", x.touch(0, -1), OUTSIDE);
        check.same("minute 1000", x.touch(0, 1000), OUTSIDE);
        for (int many = 1; many <= 12; many++) {
            check.same("one more", x.touch(0, many == 12 ? 999 : 0), many);
        }
        check.same("a thirteenth", x.touch(0, 0), FULL);
        check.same("twelve are kept", x.about(0, 2), 12);
        check.same("eleven in minute 0", x.felt(1, 0, 0), 11);
        check.same("one in minute 999", x.felt(1, 999, 999), 1);
        check.same("they are forgotten", x.forget(), 12);
        check.same("and there is room", x.touch(0, 999), 1);
    }

    private static void feltFromAMinuteToAnother() {
        check.promise(13);
        FeltByTwin x = check.with("01,+923");
        x.touch(0, 0);
        x.touch(0, 500);
        x.touch(0, 999);
        x.touch(2, 999);
        check.same("minute 0 alone", x.felt(1, 0, 0), 1);
        check.same("from behind it", x.felt(1, 1, 499), 0);
        check.same("to the first minute of one", x.felt(1, 1, 500), 1);
        check.same("from the minute of one", x.felt(1, 500, 998), 1);
        check.same("both ends", x.felt(1, 500, 999), 2);
        check.same("all", x.felt(1, 0, 1999), 3);
        check.same("the last minute that can be told", x.felt(1, 1999, 1999), 0);
        check.same("the last minute in which one feels", x.felt(3, 1008, 1008), 1);
        check.same("ahead of it", x.felt(3, 0, 1007), 0);
        check.same("behind it", x.felt(3, 1009, 1999), 0);
        check.same("from -1", x.felt(1, -1, 5), OUTSIDE);
        check.same("from 2000", x.felt(1, 2000, 2000), OUTSIDE);
        check.same("to 2000", x.felt(1, 0, 2000), OUTSIDE);
        check.same("to ahead of from", x.felt(1, 500, 499), OUTSIDE);
        check.same("to -1", x.felt(1, 0, -1), OUTSIDE);
    }

    private static void likely(FeltByTwin x, int person, int from, int to, long above, long below) {
        check.same("above", x.surely(person, from, to, 0), above);
        check.same("below", x.surely(person, from, to, 1), below);
    }

    private static void surelyAtItsEdges() {
        check.promise(14);
        for (int tenths = 1; tenths <= 9; tenths++) {
            FeltByTwin x = check.with("?" + tenths + "01");
            likely(x, 1, 0, 1999, 0, 1);
            x.touch(0, 999);
            int divisor = tenths == 5 ? 5 : tenths % 2 == 0 ? 2 : 1;
            likely(x, 1, 0, 1999, tenths / divisor, 10 / divisor);
            likely(x, 1, 999, 999, tenths / divisor, 10 / divisor);
            likely(x, 1, 0, 998, 0, 1);
            likely(x, 1, 1000, 1999, 0, 1);
            likely(x, 0, 0, 1999, 0, 1);
        }
        FeltByTwin y = check.with("?901,23");
        for (int i = 0; i < 12; i++) {
            y.touch(0, i);
        }
        likely(y, 1, 0, 1999, 999999999999L, 1000000000000L);
        likely(y, 1, 11, 1999, 9, 10);
        likely(y, 1, 12, 1999, 0, 1);
        y.forget();
        for (int i = 0; i < 12; i++) {
            y.touch(3, i);
        }
        likely(y, 2, 0, 1999, 1, 1);
        likely(y, 9, 0, 1999, 0, 1);
        check.same("part -1", y.surely(2, 0, 1999, -1), OUTSIDE);
        check.same("part 2", y.surely(2, 0, 1999, 2), OUTSIDE);
    }

    private static void lawIsNineInADay() {
        check.promise(15);
        FeltByTwin x = check.with("?101,+123,o456");
        check.same("no touches", x.over(), NONE);
        for (int i = 0; i < 9; i++) {
            x.touch(9, 0);
            check.same("up to nine", x.over(), NONE);
        }
        x.touch(9, 99);
        check.same("the tenth, number 9", x.over(), 9);
        x.touch(9, 99);
        x.touch(9, 99);
        check.same("more don't change that", x.over(), 9);
        x.forget();
        check.same("forgotten", x.over(), NONE);
        for (int i = 0; i < 12; i++) {
            x.touch(i % 3 == 0 ? 8 : i % 3 == 1 ? 0 : 1, 0);
        }
        check.same("eight of 0 and 1 together", x.over(), NONE);
        x.forget();
        x.touch(8, 0);
        x.touch(7, 0);
        for (int i = 0; i < 10; i++) {
            x.touch(i % 2, 50);
        }
        check.same("the twelfth, number 11: its own and what it may feel", x.over(), 11);
    }

    private static int overOf(String births, int person, int firstMinute, int nineMinutes) {
        FeltByTwin x = check.with(births);
        x.touch(person, firstMinute);
        for (int i = 0; i < 9; i++) {
            x.touch(person, nineMinutes);
        }
        return x.over();
    }

    private static void daysAreHundredMinutes() {
        check.promise(15);
        check.same("0 and 99: one day", overOf("01", 9, 0, 99), 9);
        check.same("99 and 100: two", overOf("01", 9, 99, 100), NONE);
        check.same("100 and 199: one", overOf("01", 9, 100, 199), 9);
        check.same("199 and 200: two", overOf("01", 9, 199, 200), NONE);
        check.same("899 and 900: two", overOf("01", 9, 899, 900), NONE);
        check.same("900 and 999: one", overOf("01", 9, 900, 999), 9);
        // 3 has nine in the day behind, one in this day, if the first is felt at 99.
        FeltByTwin x = check.with("+923");
        x.touch(2, 90);
        for (int i = 0; i < 9; i++) {
            x.touch(2, 91 + i);
        }
        check.same("2 has ten in the first day", x.over(), 9);
        FeltByTwin y = check.with("+923");
        for (int i = 0; i < 10; i++) {
            y.touch(2, i < 9 ? 991 + i : 899);
        }
        check.same("nine of its own, nine felt behind minute 999", y.over(), NONE);
        FeltByTwin z = check.with("o234");
        for (int i = 0; i < 9; i++) {
            z.touch(2, 999);
        }
        z.touch(3, 999);
        check.same("4 has ten in the day behind minute 999", z.over(), 9);
    }

    private static void everyPersonHasEveryDay() {
        check.promise(15);
        for (int person = 0; person < 10; person++) {
            for (int day = 0; day < 10; day++) {
                FeltByTwin x = check.with(person < 2 ? "89" : "01");
                for (int i = 0; i < 10; i++) {
                    x.touch(person, 100 * day + 11 * i);
                }
                check.same(person + " has ten in day " + day, x.over(), 9);
            }
        }
        // What is felt behind minute 999 is in a day of its own, the eleventh, of who feels it.
        for (int last = 3; last < 10; last++) {
            FeltByTwin x = check.with("o" + (last - 3) + (last - 2) + (last - 1) + last);
            for (int i = 0; i < 12; i++) {
                x.touch(last - 3 + i % 3, 999);
            }
            check.same(last + " feels ten behind minute 999", x.over(), 9);
        }
        for (int first = 0; first < 9; first++) {
            FeltByTwin x = check.with("+9" + first + (first == 0 ? 9 : 0));
            for (int i = 0; i < 9; i++) {
                x.touch(first + 1, 0);
            }
            for (int i = 0; i < 3; i++) {
                x.touch(first == 0 ? 9 : 0, 999);
            }
            check.same(first + " feels three then, another had nine in day 0", x.over(), NONE);
        }
    }

    private static void newsByTouch() {
        check.promise(16);
        FeltByTwin x = check.with("01,+123,+945,o678");
        put(x, 0, 1, 0, 2, 0, 3, 0, 4, 5);
        for (int town = 0; town < 6; town++) {
            check.same("0: the same", x.soonest(town, town), 0);
        }
        check.same("a minute: a bond", x.soonest(0, 1), 1);
        check.same("a minute and 1: late", x.soonest(0, 2), 2);
        check.same("a minute and 9: late", x.soonest(0, 3), 10);
        check.same("the next in a ring", x.soonest(0, 4), 2);
        check.same("the last in a ring", x.soonest(0, 5), 3);
        check.same("behind the last the first", x.soonest(5, 0), 2);
        check.same("behind that the next", x.soonest(5, 4), 3);
        x.town(8, 4);
        check.same("never: nobody is there", x.soonest(5, 0), NONE);
        check.same("never: nobody feels it there", x.soonest(0, 5), NONE);
        FeltByTwin y = check.with("?901");
        put(y, 0, 1);
        check.same("never: a faint one is not sure", y.soonest(0, 1), NONE);
        y.town(1, 0);
        check.same("the same town", y.soonest(0, 0), 0);
        FeltByTwin z = check.with("+901,23,45,67,89");
        put(z, 0, 1, 0, 2, 2, 3, 3, 4, 4, 1);
        check.same("four bonds are sooner than a late one", z.soonest(0, 1), 4);
        FeltByTwin ring = check.with("o0123");
        put(ring, 0, 0, 0, 1);
        check.same("anybody there: the one just ahead", ring.soonest(0, 1), 2);
        put(ring, 0, 2, 3, 1);
        check.same("or the first, three minutes ahead", ring.soonest(0, 1), 4);
    }

    private static void newsByRoad() {
        check.promise(16);
        FeltByTwin x = check.with("01");
        put(x, 2, 5);
        x.road(0, 1, 99);
        x.road(1, 2, 99);
        x.road(5, 4, 99);
        x.road(4, 3, 99);
        check.same("by road, touch, road", x.soonest(0, 3), 397);
        check.same("and back", x.soonest(3, 0), 397);
        x.road(2, 5, 1);
        check.same("a road of 1 is as soon as a bond", x.soonest(0, 3), 397);
        x.road(0, 3, 99);
        check.same("a road there", x.soonest(0, 3), 99);
        x.road(0, 3, 0);
        x.road(2, 5, 0);
        x.road(1, 2, 0);
        check.same("never", x.soonest(0, 3), NONE);
        check.same("from -1", x.soonest(-1, 0), UNKNOWN);
        check.same("to 6", x.soonest(0, 6), UNKNOWN);
    }

    private static void unseenBySet() {
        check.promise(17);
        FeltByTwin x = check.with("01,o2345,67");
        put(x, 0, 1, 0, 1, 1, 1, 0, 1, 0, 0);
        check.same("0: nobody", x.unseen(0, 1, 0), 1);
        check.same("one who is touched", x.unseen(0, 1, 1), 1);
        check.same("both bonds", x.unseen(0, 1, 1 | 1 << 6), 2);
        check.same("both bonds by who feels", x.unseen(0, 1, 1 << 1 | 1 << 7), 2);
        for (int ring = 2; ring <= 5; ring++) {
            check.same("all, the ring by " + ring, x.unseen(0, 1, 3 | 3 << 6 | 1 << ring), NONE);
        }
        check.same("others don't matter", x.unseen(0, 1, 3 << 8), 1);
        check.same("1023: everybody", x.unseen(0, 1, 1023), NONE);
        check.same("1023: the same town", x.unseen(1, 1, 1023), 0);
        x.road(0, 1, 99);
        check.same("1023: by road", x.unseen(0, 1, 1023), 99);
        check.same("1024", x.unseen(0, 1, 1024), OUTSIDE);
        check.same("-1", x.unseen(0, 1, -1), OUTSIDE);
    }

    private static void keptAre(FeltByTwin x, int minutes, int... due) {
        for (int what = 0; what < due.length; what++) {
            check.same("kept(" + minutes + ", " + what + ")", x.kept(minutes, what), due[what]);
        }
    }

    private static void keptPairs() {
        check.promise(18);
        FeltByTwin star = new FeltByTwin();
        for (int town = 1; town < 6; town++) {
            star.road(0, town, 1);
        }
        keptAre(star, 2, 0, NONE, NONE, NONE, NONE);
        keptAre(star, 1, NONE, NONE, NONE, NONE, NONE);
        keptAre(star, 0, NONE, NONE, NONE, NONE, NONE);
        keptAre(star, 999, 0, NONE, NONE, NONE, NONE);
        FeltByTwin parts = new FeltByTwin();
        parts.road(0, 1, 2);
        parts.road(2, 3, 2);
        parts.road(4, 5, 2);
        keptAre(parts, 8, 2, 0, 2, 0, 4);
        keptAre(parts, 7, 2, 0, 2, 0, 4);
        keptAre(parts, 6, 2, 0, 2, 0, 4);
        keptAre(parts, 5, NONE, NONE, NONE, NONE, NONE);
        FeltByTwin last = new FeltByTwin();
        for (int a = 0; a < 6; a++) {
            for (int b = 0; b < a; b++) {
                last.road(a, b, a == 5 && b == 4 ? 99 : 1);
            }
        }
        keptAre(last, 1, 1, 4, 5, NONE, NONE);
        last.road(3, 5, 2);
        keptAre(last, 1, 2, 3, 5, 4, 5);
        last.road(2, 5, 2);
        keptAre(last, 1, NONE, NONE, NONE, NONE, NONE);
        FeltByTwin apart = new FeltByTwin();
        for (int town = 1; town < 5; town++) {
            apart.road(0, town, 99);
        }
        keptAre(apart, 999, 1, 0, 5, NONE, NONE);
        apart.road(0, 4, 0);
        keptAre(apart, 999, 2, 0, 4, 0, 5);
        apart.road(0, 3, 0);
        keptAre(apart, 999, NONE, NONE, NONE, NONE, NONE);
        check.same("fifteen are done", apart.count(8), 15);
    }

    /** Roads of a minute between all towns but those of one pair, or of two: these pairs must be kept then. */
    private static void keptIsEveryPair() {
        check.promise(18);
        int[][] pairs = new int[15][];
        for (int a = 0, next = 0; a < 6; a++) {
            for (int b = a + 1; b < 6; b++) {
                pairs[next++] = new int[] {a, b};
            }
        }
        for (int first = 0; first < 15; first++) {
            int[] p = pairs[first];
            FeltByTwin one = allRoadsBut(pairs, p, p);
            keptAre(one, 2, 0, NONE, NONE, NONE, NONE);
            keptAre(one, 1, 1, p[0], p[1], NONE, NONE);
            for (int second = first + 1; second < 15; second++) {
                int[] q = pairs[second];
                keptAre(allRoadsBut(pairs, p, q), 1, 2, p[0], p[1], q[0], q[1]);
            }
        }
    }

    private static FeltByTwin allRoadsBut(int[][] pairs, int[] p, int[] q) {
        FeltByTwin x = new FeltByTwin();
        for (int[] pair : pairs) {
            if (pair != p && pair != q) {
                x.road(pair[0], pair[1], 1);
            }
        }
        return x;
    }

    private static void wordsOfMinutes() {
        check.promise(19);
        FeltByTwin x = new FeltByTwin();
        for (int minutes = 1; minutes <= 8; minutes++) {
            for (int places = 1; places <= 3; places++) {
                check.same("0 pinches", x.words(minutes, places, 0), 1);
                check.same("1 pinch", x.words(minutes, places, 1), 1 + minutes * places);
                int all = (int) Math.pow(places + 1, minutes);
                check.same("a pinch in each minute", x.words(minutes, places, minutes), all);
                check.same("8 pinches at most", x.words(minutes, places, 8), all);
                check.same("one minute is without", x.words(minutes, places, minutes - 1),
                    all - (int) Math.pow(places, minutes));
            }
        }
        check.promise(20);
        for (int places = 1; places <= 3; places++) {
            FeltByTwin y = new FeltByTwin();
            for (int minutes = 1; minutes <= 8; minutes++) {
                int all = (int) Math.pow(places + 1, minutes);
                check.same("just as many", y.least(all, places, 8), minutes);
                check.same("one more", y.least(all + 1, places, 8), minutes == 8 ? NONE : minutes + 1);
                check.same("just as many by one pinch", y.least(1 + minutes * places, places, 1), minutes);
            }
            check.same("one news", y.least(1, places, 0), 1);
            check.same("two without a pinch", y.least(2, places, 0), NONE);
            check.same("99999", y.least(99999, places, 8), NONE);
            check.same("100000", y.least(100000, places, 8), OUTSIDE);
            check.same("0", y.least(0, places, 8), OUTSIDE);
        }
    }

    private static void missedRows() {
        check.promise(21);
        int[][] most = {{2, 1, 1, 1, 1}, {4, 2, 1, 1, 1}, {8, 2, 2, 1, 1}, {16, 4, 2, 2, 1}};
        int[][] first = {{3, 1, 1, 1, 1}, {15, 9, 1, 1, 1}, {255, 9, 129, 1, 1}, {65535, 33345, 129, 32769, 1}};
        FeltByTwin x = new FeltByTwin();
        for (int minutes = 1; minutes <= 4; minutes++) {
            for (int missed = 0; missed <= 4; missed++) {
                String told = "missed(" + minutes + ", " + missed;
                check.same(told + ", 0)", x.missed(minutes, missed, 0), most[minutes - 1][missed]);
                check.same(told + ", 1)", x.missed(minutes, missed, 1), first[minutes - 1][missed]);
            }
        }
    }

    private static void bookOfFour() {
        check.promise(22);
        FeltByTwin x = new FeltByTwin();
        int[] words = {0, 255, 128, 1};
        for (int i = 0; i < 4; i++) {
            check.same("not yet", x.read(i, 0, 5, 0), UNKNOWN);
            check.same("one more", x.book(words[i]), i + 1);
            check.same("there already", x.book(words[i]), STATE);
        }
        check.same("a fifth", x.book(2), FULL);
        check.same("there already, and full", x.book(0), STATE);
        check.same("256", x.book(256), OUTSIDE);
        check.same("-1", x.book(-1), OUTSIDE);
        check.same("four", x.count(3), 4);
    }

    private static void reads(FeltByTwin x, int word, int came, int odds, long above, long below) {
        String told = "read(" + word + ", " + came + ", " + odds + ") ";
        check.same(told + "above", x.read(word, came, odds, 0), above);
        check.same(told + "below", x.read(word, came, odds, 1), below);
    }

    private static void readByOdds() {
        check.promise(23);
        FeltByTwin x = new FeltByTwin();
        x.book(255);
        reads(x, 0, 255, 0, 1, 1);
        reads(x, 0, 255, 9, 1, 1);
        reads(x, 0, 0, 9, 1, 1);
        reads(x, 0, 254, 0, NONE, NONE);
        x.book(0);
        reads(x, 0, 0, 0, 0, 1);
        reads(x, 1, 0, 0, 1, 1);
        reads(x, 0, 255, 0, 1, 1);
        reads(x, 1, 255, 0, 0, 1);
        reads(x, 1, 1, 9, 0, 1);
        reads(x, 0, 1, 9, 1, 1);
        reads(x, 0, 0, 1, 1, 100000001);
        reads(x, 1, 0, 1, 100000000, 100000001);
        x.book(254);
        x.book(253);
        reads(x, 0, 252, 5, 1, 5);
        reads(x, 2, 252, 5, 2, 5);
        reads(x, 0, 252, 9, 9, 29);
        reads(x, 3, 252, 9, 10, 29);
        reads(x, 1, 252, 9, 0, 1);
        reads(x, 2, 255, 9, 0, 1);
        reads(x, 0, 252, 0, NONE, NONE);
        FeltByTwin y = new FeltByTwin();
        y.book(1);
        reads(y, 0, 2, 9, NONE, NONE);
        reads(y, 0, 3, 9, NONE, NONE);
        reads(y, 0, 0, 0, NONE, NONE);
        check.same("odds 10", y.read(0, 1, 10, 0), OUTSIDE);
        check.same("odds -1", y.read(0, 1, -1, 0), OUTSIDE);
        check.same("outside, and it can be none", y.read(0, 2, 9, 2), OUTSIDE);
    }

    private static void crowdOfPairs() {
        check.promise(26);
        int[] due = {1, 3, 15, 105};
        for (int i = 0; i < 4; i++) {
            int n = 2 * i + 2;
            FeltByTwin x = new FeltByTwin();
            check.same("of how many it was", x.crowd(n), 4);
            check.same("pairings of " + n, x.pairings(), due[i]);
            check.same("the first", x.twin(0), n == 2 ? 1 : NONE);
            check.same("the last", x.twin(n - 1), n == 2 ? 0 : NONE);
            check.same("nobody behind the last", x.twin(n), UNKNOWN);
            check.same("nobody ahead of the first", x.twin(-1), UNKNOWN);
            x.wince(0, 1 << n - 1);
            check.same("the last is the twin of the first", x.twin(0), n - 1);
            check.same("and the first of the last", x.twin(n - 1), 0);
            check.same("pairings of the others", x.pairings(), i == 0 ? 1 : due[i - 1]);
            x.wince(n - 1, 0);
            check.same("0: nobody winced", x.pairings(), 0);
            check.same("no pairings", x.twin(0), NONE);
        }
    }

    private static void winces() {
        check.promise(25);
        for (int n = 2; n <= 8; n += 2) {
            FeltByTwin x = new FeltByTwin();
            x.crowd(n);
            int all = (1 << n) - 1;
            check.same("set -1", x.wince(0, -1), OUTSIDE);
            check.same("one beyond the crowd", x.wince(0, all + 1), OUTSIDE);
            check.same("one of none", x.wince(n, all), UNKNOWN);
            for (int many = 1; many <= 8; many++) {
                check.same("all of the crowd", x.wince(n - 1, all), many);
            }
            check.same("a ninth", x.wince(0, all), FULL);
            check.same("that tells nothing", x.twin(0), n == 2 ? 1 : NONE);
            check.same("a new crowd has none", x.crowd(n), n);
            check.same("and room", x.wince(0, 1), 1);
            check.same("nobody is its own twin", x.pairings(), 0);
        }
    }

    private static void round() {
        check.promise(28);
        FeltByTwin x = new FeltByTwin();
        long above = 1, below = 1;
        for (int many = 2; many <= 9; many++) {
            above *= 9;
            below *= 10;
            check.same("9 tenths above", x.round(many, 9, 0), above);
            check.same("9 tenths below", x.round(many, 9, 1), below);
            check.same("1 tenth above", x.round(many, 1, 0), 1);
            check.same("1 tenth below", x.round(many, 1, 1), below);
            check.same("0 above", x.round(many, 0, 0), 0);
            check.same("0 below", x.round(many, 0, 1), 1);
            check.same("5 tenths above", x.round(many, 5, 0), 1);
            check.same("5 tenths below", x.round(many, 5, 1), 1 << many - 1);
        }
        check.same("of 1", x.round(1, 5, 0), OUTSIDE);
        check.same("of 10", x.round(10, 5, 0), OUTSIDE);
        check.same("by 10", x.round(2, 10, 0), OUTSIDE);
        check.same("by -1", x.round(2, -1, 0), OUTSIDE);
    }

    private static void imageKeeps() {
        check.promise(30);
        FeltByTwin x = check.with("01");
        x.touch(0, 10);
        x.town(0, 5);
        x.book(3);
        x.wince(0, 2);
        x.image();
        x.forget();
        x.touch(1, 20);
        x.touch(1, 30);
        x.town(0, 4);
        x.town(9, 4);
        x.book(4);
        x.wince(2, 1);
        x.road(0, 1, 7);
        Check.write(x, "45");
        x.kept(9, 0);
        check.same("one touch", x.restore(), 1);
        check.same("touches: who", x.about(0, 2), 1);
        check.same("touches: in which minute", x.felt(1, 10, 10), 1);
        check.same("touches: no others", x.felt(0, 0, 1999), 0);
        check.same("in which towns: 0", x.about(0, 0), 5);
        check.same("in which towns: 9", x.about(9, 0), 0);
        check.same("the book", x.count(3), 1);
        check.same("its word", x.book(3), STATE);
        check.same("winces", x.count(5), 1);
        check.same("what they tell", x.pairings(), 1);
        check.same("not roads", x.count(2), 1);
        check.same("not the page", x.count(6), 2);
        check.same("not how often kept() was done", x.count(8), 1);
    }
}
