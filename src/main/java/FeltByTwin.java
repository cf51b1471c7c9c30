import java.util.Arrays;

/**
 * Felt by the twin: towns, births, touches, news, words of pinches, a crowd and a ring.
 * The promises that the public methods keep are those of DOC.md, by number.
 */
public final class FeltByTwin {
    public static final int NONE = -1, UNKNOWN = -101, OUTSIDE = -102, STATE = -103, FULL = -104;

    private static final int PEOPLE = 10;
    private static final int TOWNS = 6;
    private static final int LAST_MINUTE = 1999;
    private static final int LONGEST_WORD = 8;
    private static final int MOST_PLACES = 3;
    private static final int KEPT_LIMIT = 20;
    private static final int COUNTS = 9;

    private static final int BOND = 0;
    private static final int RING = 1;
    private static final int FAINT = 2;
    private static final int LATE = 3;

    private final Page page = new Page();
    private final Touches touches = new Touches();
    private final News news = new News();
    private final Book book = new Book();
    private final Crowd crowd = new Crowd();
    private final Rows rows = new Rows();
    private final Image image = new Image();
    private final int[] towns = new int[PEOPLE];
    private Register register = new Register();
    private Register draft = new Register();
    private int timesRead;
    private int timesKept;

    public FeltByTwin() {
    }

    // ---- towns, births

    public int road(int a, int b, int minutes) {
        if (!isTown(a) || !isTown(b) || a == b) {
            return UNKNOWN;
        }
        if (!isWithin(minutes, 0, 99)) {
            return OUTSIDE;
        }
        return news.setRoad(a, b, minutes);
    }

    public int town(int person, int town) {
        if (!isPerson(person) || !isTown(town)) {
            return UNKNOWN;
        }
        int before = towns[person];
        towns[person] = town;
        return before;
    }

    public int letters(long w) {
        return page.write(w);
    }

    public int blank() {
        int before = page.size();
        page.clear();
        return before;
    }

    public int fault() {
        return draft.readFrom(page);
    }

    public int births() {
        if (draft.readFrom(page) < page.size() || !draft.isWhole()) {
            return STATE;
        }
        Register old = register;
        register = draft;
        draft = old;
        page.clear();
        touches.clear();
        image.spoil();
        timesRead++;
        return register.size();
    }

    public int birth(int birth, int what) {
        Birth found = register.find(birth);
        if (found == null) {
            return UNKNOWN;
        }
        if (!isWithin(what, 0, Birth.FACTS - 1)) {
            return OUTSIDE;
        }
        return found.fact(what);
    }

    public int as(int birth, int kind) {
        Birth found = register.find(birth);
        if (found == null) {
            return UNKNOWN;
        }
        if (!isWithin(kind, BOND, LATE)) {
            return OUTSIDE;
        }
        return found.isA(kind) ? birth : NONE;
    }

    public int about(int person, int what) {
        if (!isPerson(person)) {
            return UNKNOWN;
        }
        switch (what) {
            case 0:
                return towns[person];
            case 1:
                return register.birthOf(person);
            case 2:
                return touches.ofPerson(person);
            default:
                return OUTSIDE;
        }
    }

    // ---- touches

    public int touch(int person, int minute) {
        if (!isPerson(person)) {
            return UNKNOWN;
        }
        if (!isWithin(minute, 0, Touches.LAST)) {
            return OUTSIDE;
        }
        return touches.add(person, minute);
    }

    public int forget() {
        int before = touches.size();
        touches.clear();
        return before;
    }

    public int felt(int person, int from, int to) {
        if (!isPerson(person)) {
            return UNKNOWN;
        }
        if (!isSpan(from, to)) {
            return OUTSIDE;
        }
        return touches.timesFelt(register, person, from, to);
    }

    public long surely(int person, int from, int to, int part) {
        if (!isPerson(person)) {
            return UNKNOWN;
        }
        if (!isSpan(from, to) || !isPart(part)) {
            return OUTSIDE;
        }
        int times = touches.timesFelt(register, person, from, to);
        long all = power(10, times);
        long unfelt = power(10 - register.tenthsOf(person), times);
        return inLowestTerms(all - unfelt, all, part);
    }

    public int over() {
        return touches.firstOver(register);
    }

    // ---- news

    public int soonest(int from, int to) {
        if (!isTown(from) || !isTown(to)) {
            return UNKNOWN;
        }
        news.reckon(register, towns, 0);
        return news.minutesBetween(from, to);
    }

    public int unseen(int from, int to, int set) {
        if (!isTown(from) || !isTown(to)) {
            return UNKNOWN;
        }
        if (!isSetOf(set, PEOPLE)) {
            return OUTSIDE;
        }
        news.reckon(register, towns, set);
        return news.minutesBetween(from, to);
    }

    public int kept(int minutes, int what) {
        if (!isWithin(minutes, 0, 999) || !isWithin(what, 0, News.PAIR_TOWNS)) {
            return OUTSIDE;
        }
        if (timesKept >= KEPT_LIMIT) {
            return STATE;
        }
        timesKept++;
        news.reckon(register, towns, 0);
        int pairs = news.fewestPairs(minutes);
        return what == 0 ? pairs : news.townOfPairs(what - 1);
    }

    // ---- words

    public int words(int minutes, int places, int pinches) {
        if (!isWithin(minutes, 1, LONGEST_WORD) || !arePinches(places, pinches)) {
            return OUTSIDE;
        }
        return wordsOf(minutes, places, pinches);
    }

    public int least(int news, int places, int pinches) {
        if (!isWithin(news, 1, 99999) || !arePinches(places, pinches)) {
            return OUTSIDE;
        }
        for (int minutes = 1; minutes <= LONGEST_WORD; minutes++) {
            if (wordsOf(minutes, places, pinches) >= news) {
                return minutes;
            }
        }
        return NONE;
    }

    public int missed(int minutes, int missed, int what) {
        if (!isWithin(minutes, 1, 4) || !isWithin(missed, 0, 4) || !isWithin(what, 0, 1)) {
            return OUTSIDE;
        }
        rows.search(minutes, missed);
        return what == 0 ? rows.most() : rows.firstSet();
    }

    public int book(int word) {
        if (!isSetOf(word, LONGEST_WORD)) {
            return OUTSIDE;
        }
        return book.add(word);
    }

    public long read(int word, int came, int odds, int part) {
        if (!isWithin(word, 0, book.size() - 1)) {
            return UNKNOWN;
        }
        if (!isSetOf(came, LONGEST_WORD) || !isOdds(odds) || !isPart(part)) {
            return OUTSIDE;
        }
        long all = book.weightOfAll(came, odds);
        if (all == 0) {
            return NONE;
        }
        return inLowestTerms(book.weight(word, came, odds), all, part);
    }

    // ---- a crowd, a ring

    public int crowd(int n) {
        if (n != 2 && n != 4 && n != 6 && n != 8) {
            return OUTSIDE;
        }
        int before = crowd.size();
        crowd.gather(n);
        image.spoil();
        return before;
    }

    public int wince(int one, int set) {
        if (!isWithin(one, 0, crowd.size() - 1)) {
            return UNKNOWN;
        }
        if (!isSetOf(set, crowd.size())) {
            return OUTSIDE;
        }
        return crowd.add(one, set);
    }

    public int pairings() {
        return crowd.survey();
    }

    public int twin(int one) {
        if (!isWithin(one, 0, crowd.size() - 1)) {
            return UNKNOWN;
        }
        crowd.survey();
        return crowd.onlyTwin(one);
    }

    public long round(int many, int odds, int part) {
        if (!isWithin(many, 2, 9) || !isOdds(odds) || !isPart(part)) {
            return OUTSIDE;
        }
        return inLowestTerms(power(odds, many - 1), power(10, many - 1), part);
    }

    // ---- what is told

    public int image() {
        image.keep(touches, towns, book, crowd);
        return touches.size();
    }

    public int restore() {
        if (!image.isGood()) {
            return STATE;
        }
        image.giveBack(touches, towns, book, crowd);
        return touches.size();
    }

    public int count(int what) {
        switch (what) {
            case 0:
                return register.size();
            case 1:
                return touches.size();
            case 2:
                return news.roads();
            case 3:
                return book.size();
            case 4:
                return crowd.size();
            case 5:
                return crowd.winces();
            case 6:
                return page.size();
            case 7:
                return timesRead;
            case 8:
                return timesKept;
            default:
                return OUTSIDE;
        }
    }

    public long digest() {
        long h = 577;
        h = mixBirths(h);
        h = mixPeople(h);
        h = mix(h, over());
        h = mixNews(h);
        h = mixBook(h);
        h = mixCrowd(h);
        h = mixPage(h);
        for (int what = 0; what < COUNTS; what++) {
            h = mix(h, count(what));
        }
        return h;
    }

    private long mixBirths(long start) {
        long h = start;
        for (int birth = 0; birth < register.size(); birth++) {
            for (int what = 0; what < Birth.FACTS; what++) {
                h = mix(h, birth(birth, what));
            }
        }
        return h;
    }

    private long mixPeople(long start) {
        long h = start;
        for (int person = 0; person < PEOPLE; person++) {
            for (int what = 0; what < 3; what++) {
                h = mix(h, about(person, what));
            }
            h = mix(h, felt(person, 0, LAST_MINUTE));
        }
        return h;
    }

    private long mixNews(long start) {
        long h = start;
        news.reckon(register, towns, 0);
        for (int from = 0; from < TOWNS; from++) {
            for (int to = 0; to < TOWNS; to++) {
                h = mix(h, news.minutesBetween(from, to));
            }
        }
        return h;
    }

    private long mixBook(long start) {
        long h = start;
        for (int word = 0; word < book.size(); word++) {
            h = mix(h, book.at(word));
        }
        return h;
    }

    private long mixCrowd(long start) {
        long h = mix(start, crowd.survey());
        for (int one = 0; one < crowd.size(); one++) {
            h = mix(h, crowd.onlyTwin(one));
        }
        return h;
    }

    private long mixPage(long start) {
        long h = start;
        for (int place = 0; place < page.size(); place++) {
            h = mix(h, page.at(place));
        }
        return h;
    }

    private static long mix(long h, long number) {
        return 31 * h + number;
    }

    private static boolean isWithin(int number, int least, int most) {
        return number >= least && number <= most;
    }

    private static boolean isPerson(int number) {
        return number >= 0 && number < PEOPLE;
    }

    private static boolean isTown(int number) {
        return number >= 0 && number < TOWNS;
    }

    private static boolean isSpan(int from, int to) {
        return isWithin(from, 0, LAST_MINUTE) && isWithin(to, from, LAST_MINUTE);
    }

    private static boolean isPart(int number) {
        return isWithin(number, 0, 1);
    }

    private static boolean isOdds(int number) {
        return isWithin(number, 0, 9);
    }

    private static boolean isSetOf(int set, int many) {
        return isWithin(set, 0, (1 << many) - 1);
    }

    private static boolean arePinches(int places, int pinches) {
        return isWithin(places, 1, MOST_PLACES) && isWithin(pinches, 0, 8);
    }

    private static boolean isIn(int set, int one) {
        return ((set >> one) & 1) != 0;
    }

    private static int wordsOf(int minutes, int places, int pinches) {
        int sum = 0;
        int ways = 1;
        for (int pinched = 0; pinched <= pinches && pinched <= minutes; pinched++) {
            sum += ways;
            ways = ways * (minutes - pinched) * places / (pinched + 1);
        }
        return sum;
    }

    private static long power(long base, int times) {
        long product = 1;
        for (int i = 0; i < times; i++) {
            product *= base;
        }
        return product;
    }

    private static long inLowestTerms(long above, long below, int part) {
        long divisor = commonDivisor(above, below);
        long told = part == 0 ? above : below;
        return divisor == 0 ? told : told / divisor;
    }

    private static long commonDivisor(long a, long b) {
        long greater = a;
        long lesser = b;
        // Euclid's way needs under a hundred rounds for any two longs.
        for (int i = 0; i < 100 && lesser != 0; i++) {
            long rest = greater % lesser;
            greater = lesser;
            lesser = rest;
        }
        return greater;
    }

    /** THE PAGE: the letters that may be read as BIRTHS. */
    private static final class Page {
        private static final int MOST = 32;
        private static final int BYTES = 8;
        private static final int GREATEST_CODE = 126;

        private final int[] codes = new int[MOST];
        private int many;

        int size() {
            return many;
        }

        int at(int place) {
            return place >= 0 && place < many && place < MOST ? codes[place] : NONE;
        }

        void clear() {
            many = 0;
        }

        int write(long w) {
            int more = lettersIn(w);
            if (more < 0) {
                return OUTSIDE;
            }
            if (many + more > MOST) {
                return FULL;
            }
            for (int i = 0; i < more; i++) {
                codes[many + i] = byteOf(w, i);
            }
            many += more;
            return many;
        }

        private static int lettersIn(long w) {
            int found = 0;
            for (int i = 0; i < BYTES; i++) {
                int code = byteOf(w, i);
                boolean isBehindEnd = found < i;
                if (code > GREATEST_CODE || (code != 0 && isBehindEnd)) {
                    return NONE;
                }
                if (code != 0) {
                    found++;
                }
            }
            return found;
        }

        private static int byteOf(long w, int place) {
            return (int) ((w >>> (8 * place)) & 255);
        }
    }

    /** Those who were born together. A new one is a BOND until a sign tells otherwise. */
    private static final class Birth {
        static final int FACTS = 7;
        private static final int MOST = 4;

        private final int[] members = new int[MOST];
        private int kind;
        private int amount;
        private int many;

        void begin() {
            kind = BOND;
            amount = 0;
            many = 0;
        }

        boolean takeSign(int signKind) {
            if (kind != BOND || many != 0) {
                return false;
            }
            kind = signKind;
            return true;
        }

        boolean needsAmount() {
            return (kind == FAINT || kind == LATE) && amount == 0;
        }

        boolean takeAmount(int digit) {
            amount = digit;
            return digit != 0;
        }

        boolean takePerson(int person) {
            int most = kind == RING ? MOST : 2;
            if (many >= most) {
                return false;
            }
            members[many] = person;
            many++;
            return true;
        }

        boolean isWhole() {
            return many >= (kind == RING ? 3 : 2);
        }

        boolean isA(int wanted) {
            // Every kind is a BIRTH, and that is what the number of a BOND stands for.
            return wanted == BOND || wanted == kind;
        }

        int size() {
            return many;
        }

        int tenths() {
            return kind == FAINT ? amount : 10;
        }

        int fact(int what) {
            switch (what) {
                case 0:
                    return kind;
                case 1:
                    return many;
                case 2:
                    return amount;
                default:
                    return member(what - 3);
            }
        }

        int member(int place) {
            return place >= 0 && place < many && place < MOST ? members[place] : NONE;
        }

        int placeOf(int person) {
            for (int place = 0; place < many; place++) {
                if (member(place) == person) {
                    return place;
                }
            }
            return NONE;
        }

        boolean hasAnyOf(int set) {
            for (int place = 0; place < many; place++) {
                if (isIn(set, member(place))) {
                    return true;
                }
            }
            return false;
        }

        /** How many minutes behind the touch of the one in a place the one in the other feels it. */
        int delay(int touched, int feeling) {
            switch (kind) {
                case RING:
                    return touched <= feeling ? feeling - touched : feeling - touched + many;
                case LATE:
                    return amount;
                default:
                    return 0;
            }
        }
    }

    /** The BIRTHS, which are taken letter by letter. */
    private static final class Register {
        private static final int MOST = 5;

        private final Birth[] births = new Birth[MOST];
        private final int[] birthOf = new int[PEOPLE];
        private int many;

        Register() {
            for (int i = 0; i < MOST; i++) {
                births[i] = new Birth();
            }
            Arrays.fill(birthOf, NONE);
        }

        /** How many letters are taken until one is refused or the page ends. */
        int readFrom(Page page) {
            Arrays.fill(birthOf, NONE);
            many = 0;
            beginBirth();
            for (int place = 0; place < page.size(); place++) {
                if (!take(page.at(place))) {
                    return place;
                }
            }
            return page.size();
        }

        boolean isWhole() {
            Birth last = find(many - 1);
            return last != null && last.isWhole();
        }

        int size() {
            return many;
        }

        Birth find(int number) {
            return number >= 0 && number < many && number < MOST ? births[number] : null;
        }

        int birthOf(int person) {
            return isPerson(person) ? birthOf[person] : NONE;
        }

        /** Of ten, how often one feels a touch of its twin. */
        int tenthsOf(int person) {
            Birth own = find(birthOf(person));
            return own == null ? 10 : own.tenths();
        }

        /** How many minutes behind a touch of one it comes to another; NONE: not at all. */
        int delay(int touched, int feeling) {
            int number = birthOf(touched);
            Birth shared = find(number);
            if (shared == null || birthOf(feeling) != number || touched == feeling) {
                return NONE;
            }
            return shared.delay(shared.placeOf(touched), shared.placeOf(feeling));
        }

        private boolean beginBirth() {
            if (many >= MOST) {
                return false;
            }
            births[many].begin();
            many++;
            return true;
        }

        private boolean take(int letter) {
            Birth last = find(many - 1);
            if (last == null) {
                return false;
            }
            switch (letter) {
                case ',':
                    return last.isWhole() && beginBirth();
                case 'o':
                    return last.takeSign(RING);
                case '?':
                    return last.takeSign(FAINT);
                case '+':
                    return last.takeSign(LATE);
                default:
                    return takeDigit(last, letter - '0');
            }
        }

        private boolean takeDigit(Birth last, int digit) {
            if (!isPerson(digit)) {
                return false;
            }
            if (last.needsAmount()) {
                return last.takeAmount(digit);
            }
            if (birthOf[digit] != NONE || !last.takePerson(digit)) {
                return false;
            }
            birthOf[digit] = many - 1;
            return true;
        }
    }

    /** The TOUCHES that are kept, by number. */
    private static final class Touches {
        static final int LAST = 999;
        private static final int MOST = 12;
        private static final int DAY = 100;
        // What is felt latest, nine minutes behind the last minute, is in an eleventh day.
        private static final int DAYS = 11;
        private static final int LAWFUL = 9;

        private final int[] who = new int[MOST];
        private final int[] when = new int[MOST];
        private final int[] tally = new int[PEOPLE * DAYS];
        private int many;

        int size() {
            return many;
        }

        void clear() {
            many = 0;
        }

        int add(int person, int minute) {
            if (many >= MOST) {
                return FULL;
            }
            who[many] = person;
            when[many] = minute;
            many++;
            return many;
        }

        void copyFrom(Touches other) {
            System.arraycopy(other.who, 0, who, 0, MOST);
            System.arraycopy(other.when, 0, when, 0, MOST);
            many = other.many;
        }

        int ofPerson(int person) {
            int times = 0;
            for (int i = 0; i < many && i < MOST; i++) {
                if (who[i] == person) {
                    times++;
                }
            }
            return times;
        }

        int timesFelt(Register register, int person, int from, int to) {
            int times = 0;
            for (int i = 0; i < many && i < MOST; i++) {
                int delay = register.delay(who[i], person);
                if (delay != NONE && isWithin(when[i] + delay, from, to)) {
                    times++;
                }
            }
            return times;
        }

        int firstOver(Register register) {
            Arrays.fill(tally, 0);
            for (int i = 0; i < many && i < MOST; i++) {
                if (isOverBehind(register, who[i], when[i])) {
                    return i;
                }
            }
            return NONE;
        }

        private boolean isOverBehind(Register register, int touched, int minute) {
            boolean isOver = false;
            for (int person = 0; person < PEOPLE; person++) {
                int delay = person == touched ? 0 : register.delay(touched, person);
                if (delay != NONE) {
                    isOver |= talliedFor(person, minute + delay) > LAWFUL;
                }
            }
            return isOver;
        }

        private int talliedFor(int person, int minute) {
            int cell = person * DAYS + minute / DAY;
            if (cell < 0 || cell >= tally.length) {
                return 0;
            }
            tally[cell]++;
            return tally[cell];
        }
    }

    /** How soon news can go between every two towns. */
    private static final class Ways {
        // Above every true way, which takes 99 minutes five times at most, and above what may be asked.
        static final int NEVER = 100000;

        private final int[] minutes = new int[TOWNS * TOWNS];

        int between(int from, int to) {
            return isTown(from) && isTown(to) ? minutes[from * TOWNS + to] : NEVER;
        }

        void clear() {
            Arrays.fill(minutes, NEVER);
            for (int town = 0; town < TOWNS; town++) {
                shorten(town, town, 0);
            }
        }

        void shorten(int from, int to, int offer) {
            if (!isTown(from) || !isTown(to)) {
                return;
            }
            int way = from * TOWNS + to;
            minutes[way] = Math.min(minutes[way], offer);
        }

        void joinWays() {
            for (int through = 0; through < TOWNS; through++) {
                for (int from = 0; from < TOWNS; from++) {
                    joinThrough(through, from);
                }
            }
        }

        private void joinThrough(int through, int from) {
            int start = between(from, through);
            if (start < NEVER) {
                for (int to = 0; to < TOWNS; to++) {
                    shorten(from, to, start + between(through, to));
                }
            }
        }

        /** The ways of another, which are joined already, with one more bond between two towns. */
        void takeWithBond(Ways joined, int a, int b) {
            for (int from = 0; from < TOWNS; from++) {
                for (int to = 0; to < TOWNS; to++) {
                    minutes[from * TOWNS + to] = joined.betweenWithBond(from, to, a, b);
                }
            }
        }

        boolean areWithin(int limit) {
            for (int i = 0; i < minutes.length; i++) {
                if (minutes[i] > limit) {
                    return false;
                }
            }
            return true;
        }

        boolean areWithinWithBond(int limit, int a, int b) {
            for (int from = 0; from < TOWNS; from++) {
                for (int to = 0; to < TOWNS; to++) {
                    if (betweenWithBond(from, to, a, b) > limit) {
                        return false;
                    }
                }
            }
            return true;
        }

        private int betweenWithBond(int from, int to, int a, int b) {
            int there = between(from, a) + 1 + between(b, to);
            int back = between(from, b) + 1 + between(a, to);
            return Math.min(between(from, to), Math.min(there, back));
        }
    }

    /** ROADS, and how news go by them and by pinches. */
    private static final class News {
        static final int PAIR_TOWNS = 4;
        private static final int PAIRS = 15;
        // All pairs of towns, in the order in which KEPT tries them.
        private static final int[] LESSER = {0, 0, 0, 0, 0, 1, 1, 1, 1, 2, 2, 2, 3, 3, 4};
        private static final int[] GREATER = {1, 2, 3, 4, 5, 2, 3, 4, 5, 3, 4, 5, 4, 5, 5};

        private final int[] roadMinutes = new int[TOWNS * TOWNS];
        private final Ways ways = new Ways();
        private final Ways withOne = new Ways();
        private final int[] pairTowns = new int[PAIR_TOWNS];

        int setRoad(int a, int b, int minutes) {
            int before = roadMinutes[a * TOWNS + b];
            roadMinutes[a * TOWNS + b] = minutes;
            roadMinutes[b * TOWNS + a] = minutes;
            return before;
        }

        int roads() {
            int ends = 0;
            for (int i = 0; i < roadMinutes.length; i++) {
                if (roadMinutes[i] != 0) {
                    ends++;
                }
            }
            return ends / 2;
        }

        /** Finds all ways, if none is touched who was born with one of a set. */
        void reckon(Register register, int[] towns, int set) {
            ways.clear();
            for (int from = 0; from < TOWNS; from++) {
                for (int to = 0; to < TOWNS; to++) {
                    int minutes = roadMinutes[from * TOWNS + to];
                    if (minutes != 0) {
                        ways.shorten(from, to, minutes);
                    }
                }
            }
            for (int i = 0; i < register.size(); i++) {
                Birth birth = register.find(i);
                if (birth != null && !birth.isA(FAINT) && !birth.hasAnyOf(set)) {
                    addPinches(birth, towns);
                }
            }
            ways.joinWays();
        }

        private void addPinches(Birth birth, int[] towns) {
            for (int i = 0; i < birth.size(); i++) {
                for (int j = 0; j < birth.size(); j++) {
                    int touched = birth.member(i);
                    int feeling = birth.member(j);
                    if (i != j && isPerson(touched) && isPerson(feeling)) {
                        ways.shorten(towns[touched], towns[feeling], 1 + birth.delay(i, j));
                    }
                }
            }
        }

        int minutesBetween(int from, int to) {
            int minutes = ways.between(from, to);
            return minutes < Ways.NEVER ? minutes : NONE;
        }

        int townOfPairs(int place) {
            return place >= 0 && place < PAIR_TOWNS ? pairTowns[place] : NONE;
        }

        /** How many more bonds the ways need, two at most; where they are is told by townOfPairs. */
        int fewestPairs(int limit) {
            Arrays.fill(pairTowns, NONE);
            if (ways.areWithin(limit)) {
                return 0;
            }
            if (isWithinByOne(limit)) {
                return 1;
            }
            return isWithinByTwo(limit) ? 2 : NONE;
        }

        private boolean isWithinByOne(int limit) {
            for (int pair = 0; pair < PAIRS; pair++) {
                if (ways.areWithinWithBond(limit, LESSER[pair], GREATER[pair])) {
                    notePair(0, pair);
                    return true;
                }
            }
            return false;
        }

        private boolean isWithinByTwo(int limit) {
            for (int first = 0; first < PAIRS; first++) {
                withOne.takeWithBond(ways, LESSER[first], GREATER[first]);
                for (int second = first + 1; second < PAIRS; second++) {
                    if (withOne.areWithinWithBond(limit, LESSER[second], GREATER[second])) {
                        notePair(0, first);
                        notePair(2, second);
                        return true;
                    }
                }
            }
            return false;
        }

        private void notePair(int place, int pair) {
            pairTowns[place] = LESSER[pair];
            pairTowns[place + 1] = GREATER[pair];
        }
    }

    /** MISSED: the greatest sets of rows that cannot be taken for one another. */
    private static final class Rows {
        private final int[] alike = new int[16];
        private int bestMany;
        private int bestSet;

        int most() {
            return bestMany;
        }

        int firstSet() {
            return bestSet;
        }

        void search(int minutes, int missed) {
            int many = Math.min(1 << minutes, alike.length);
            for (int row = 0; row < many; row++) {
                alike[row] = rowsLike(row, many, missed);
            }
            bestMany = 0;
            bestSet = 0;
            choose(many - 1, (1 << many) - 1, 0, 0);
        }

        private static int rowsLike(int row, int many, int missed) {
            int set = 0;
            for (int other = 0; other < many; other++) {
                int fewer = Integer.bitCount(row & ~other);
                int more = Integer.bitCount(other & ~row);
                if (fewer <= missed && more <= missed) {
                    set |= 1 << other;
                }
            }
            return set;
        }

        /** Goes down from a row, leaving it out first: so sets come in the order of their numbers. */
        private void choose(int row, int free, int set, int many) {
            if (many + Integer.bitCount(free) <= bestMany) {
                return;
            }
            if (row < 0 || row >= alike.length) {
                bestMany = many;
                bestSet = set;
                return;
            }
            choose(row - 1, free & ~(1 << row), set, many);
            if (isIn(free, row)) {
                choose(row - 1, free & ~alike[row], set | 1 << row, many + 1);
            }
        }
    }

    /** The BOOK: words that may be told. */
    private static final class Book {
        private static final int MOST = 4;

        private final int[] words = new int[MOST];
        private int many;

        int size() {
            return many;
        }

        int at(int number) {
            return number >= 0 && number < many && number < MOST ? words[number] : NONE;
        }

        int add(int word) {
            for (int i = 0; i < many; i++) {
                if (at(i) == word) {
                    return STATE;
                }
            }
            if (many >= MOST) {
                return FULL;
            }
            words[many] = word;
            many++;
            return many;
        }

        void copyFrom(Book other) {
            System.arraycopy(other.words, 0, words, 0, MOST);
            many = other.many;
        }

        /**
         * How likely a word is told and so comes, times a number that is the same for every word:
         * what came of it has the same odds in all, so only what was missed tells them apart.
         */
        long weight(int number, int came, int odds) {
            int word = at(number);
            if ((came & ~word) != 0) {
                return 0;
            }
            int missed = Integer.bitCount(word & ~came);
            return power(odds, missed) * power(10, LONGEST_WORD - missed);
        }

        long weightOfAll(int came, int odds) {
            long sum = 0;
            for (int i = 0; i < many; i++) {
                sum += weight(i, came, odds);
            }
            return sum;
        }
    }

    /** A CROWD with its WINCES. */
    private static final class Crowd {
        private static final int MOST = 8;
        private static final int MOST_WINCES = 8;

        private final int[] touched = new int[MOST_WINCES];
        private final int[] sets = new int[MOST_WINCES];
        private final int[] allowed = new int[MOST];
        private final int[] twins = new int[MOST];
        private int size = 4;
        private int many;

        int size() {
            return size;
        }

        int winces() {
            return many;
        }

        void gather(int n) {
            size = n;
            many = 0;
        }

        int add(int one, int set) {
            if (many >= MOST_WINCES) {
                return FULL;
            }
            touched[many] = one;
            sets[many] = set;
            many++;
            return many;
        }

        void copyFrom(Crowd other) {
            System.arraycopy(other.touched, 0, touched, 0, MOST_WINCES);
            System.arraycopy(other.sets, 0, sets, 0, MOST_WINCES);
            size = other.size;
            many = other.many;
        }

        /** Counts the pairings that all winces allow, and notes who is with whom in them. */
        int survey() {
            int all = (1 << size) - 1;
            Arrays.fill(allowed, all);
            Arrays.fill(twins, 0);
            for (int i = 0; i < many && i < MOST_WINCES; i++) {
                allowed[touched[i]] &= sets[i];
            }
            return pairUp(all, size / 2);
        }

        /** The twin that the last survey found, if it found one alone. */
        int onlyTwin(int one) {
            if (one < 0 || one >= size || Integer.bitCount(twins[one]) != 1) {
                return NONE;
            }
            return firstOf(twins[one]);
        }

        private int pairUp(int left, int pairs) {
            if (pairs <= 0) {
                return 1;
            }
            int one = firstOf(left);
            int sum = 0;
            for (int other = one + 1; other < MOST; other++) {
                if (isIn(left, other) && mayBeTwins(one, other)) {
                    int found = pairUp(left & ~(1 << one | 1 << other), pairs - 1);
                    if (found > 0) {
                        twins[one] |= 1 << other;
                        twins[other] |= 1 << one;
                    }
                    sum += found;
                }
            }
            return sum;
        }

        private boolean mayBeTwins(int one, int other) {
            return isIn(allowed[one], other) && isIn(allowed[other], one);
        }

        private static int firstOf(int set) {
            for (int one = 0; one < MOST - 1; one++) {
                if (isIn(set, one)) {
                    return one;
                }
            }
            return MOST - 1;
        }
    }

    /** An IMAGE of what is told, good until other BIRTHS are read or a CROWD is told. */
    private static final class Image {
        private final Touches touches = new Touches();
        private final int[] towns = new int[PEOPLE];
        private final Book book = new Book();
        private final Crowd crowd = new Crowd();
        private boolean isGood;

        boolean isGood() {
            return isGood;
        }

        void spoil() {
            isGood = false;
        }

        void keep(Touches nowTouches, int[] nowTowns, Book nowBook, Crowd nowCrowd) {
            touches.copyFrom(nowTouches);
            System.arraycopy(nowTowns, 0, towns, 0, PEOPLE);
            book.copyFrom(nowBook);
            crowd.copyFrom(nowCrowd);
            isGood = true;
        }

        void giveBack(Touches nowTouches, int[] nowTowns, Book nowBook, Crowd nowCrowd) {
            nowTouches.copyFrom(touches);
            System.arraycopy(towns, 0, nowTowns, 0, PEOPLE);
            nowBook.copyFrom(book);
            nowCrowd.copyFrom(crowd);
        }
    }
}
