import java.math.BigInteger;
import java.util.ArrayList;
import java.util.Arrays;
import java.util.HashSet;
import java.util.List;
import java.util.Set;
import java.util.regex.Matcher;
import java.util.regex.Pattern;

/**
 * The document once more, told as slowly and plainly as can be, with the library's help:
 * by trying everything out. It has the face of FeltByTwin and shares none of its code.
 */
final class PlainTwin {
    private static final int NONE = -1, UNKNOWN = -101, OUTSIDE = -102, STATE = -103, FULL = -104;
    private static final String ONE_BIRTH = "(?:[0-9]{2}|o[0-9]{3,4}|[?+][1-9][0-9]{2})";
    private static final Pattern BIRTHS = Pattern.compile(ONE_BIRTH + "(?:," + ONE_BIRTH + "){0,4}");
    private static final int LONG_ENOUGH = 500;

    private final int[][] roads = new int[6][6];
    private int[] towns = new int[10];
    private String page = "";
    private List<String> births = new ArrayList<>();
    private List<String> born = new ArrayList<>();
    private List<int[]> touches = new ArrayList<>();
    private List<Integer> book = new ArrayList<>();
    private int crowd = 4;
    private List<int[]> winces = new ArrayList<>();
    private int timesRead;
    private int timesKept;
    private boolean hasImage;
    private int[] imageTowns;
    private List<int[]> imageTouches;
    private List<Integer> imageBook;
    private List<int[]> imageWinces;

    int road(int a, int b, int minutes) {
        if (out(a, 0, 5) || out(b, 0, 5) || a == b) return UNKNOWN;
        if (out(minutes, 0, 99)) return OUTSIDE;
        int before = roads[a][b];
        roads[a][b] = roads[b][a] = minutes;
        return before;
    }

    int town(int person, int town) {
        if (out(person, 0, 9) || out(town, 0, 5)) return UNKNOWN;
        int before = towns[person];
        towns[person] = town;
        return before;
    }

    int letters(long w) {
        byte[] bytes = new byte[8];
        for (int i = 0; i < 8; i++) bytes[i] = (byte) (w >> (8 * i));
        StringBuilder more = new StringBuilder();
        int end = 8;
        for (int i = 7; i >= 0; i--) if (bytes[i] == 0) end = i;
        for (int i = 0; i < 8; i++) {
            if (bytes[i] < 0 || bytes[i] == 127) return OUTSIDE;
            if (i > end && bytes[i] != 0) return OUTSIDE;
            if (i < end) more.append((char) bytes[i]);
        }
        if (page.length() + more.length() > 32) return FULL;
        page += more;
        return page.length();
    }

    int blank() {
        int before = page.length();
        page = "";
        return before;
    }

    int fault() {
        for (int n = 1; n <= page.length(); n++) {
            if (!mayBegin(page.substring(0, n))) return n - 1;
        }
        return page.length();
    }

    private static boolean mayBegin(String text) {
        Matcher matcher = BIRTHS.matcher(text);
        return (matcher.matches() || matcher.hitEnd()) && areUnlike(text);
    }

    private static boolean areUnlike(String text) {
        Set<Character> seen = new HashSet<>();
        for (char c : people(text).toCharArray()) if (!seen.add(c)) return false;
        return true;
    }

    private static String people(String text) {
        return text.replaceAll("[?+][0-9]", "").replaceAll("[^0-9]", "");
    }

    int births() {
        if (!BIRTHS.matcher(page).matches() || !areUnlike(page)) return STATE;
        births = new ArrayList<>(Arrays.asList(page.split(",")));
        born = new ArrayList<>();
        for (String text : births) born.add(people(text));
        page = "";
        touches.clear();
        timesRead++;
        hasImage = false;
        return births.size();
    }

    private int kind(int birth) {
        return Math.max(0, " o?+".indexOf(births.get(birth).charAt(0)));
    }

    private int amount(int birth) {
        return kind(birth) < 2 ? 0 : births.get(birth).charAt(1) - '0';
    }

    int birth(int birth, int what) {
        if (out(birth, 0, births.size() - 1)) return UNKNOWN;
        if (out(what, 0, 6)) return OUTSIDE;
        String who = born.get(birth);
        if (what == 0) return kind(birth);
        if (what == 1) return who.length();
        if (what == 2) return amount(birth);
        return what - 3 < who.length() ? who.charAt(what - 3) - '0' : NONE;
    }

    int as(int birth, int kind) {
        if (out(birth, 0, births.size() - 1)) return UNKNOWN;
        if (out(kind, 0, 3)) return OUTSIDE;
        return kind == 0 || kind == kind(birth) ? birth : NONE;
    }

    private int birthOf(int person) {
        for (int b = 0; b < births.size(); b++) {
            if (born.get(b).indexOf('0' + person) >= 0) return b;
        }
        return NONE;
    }

    int about(int person, int what) {
        if (out(person, 0, 9)) return UNKNOWN;
        if (out(what, 0, 2)) return OUTSIDE;
        if (what == 0) return towns[person];
        if (what == 1) return birthOf(person);
        int times = 0;
        for (int[] t : touches) if (t[0] == person) times++;
        return times;
    }

    int touch(int person, int minute) {
        if (out(person, 0, 9)) return UNKNOWN;
        if (out(minute, 0, 999)) return OUTSIDE;
        if (touches.size() == 12) return FULL;
        touches.add(new int[] {person, minute});
        return touches.size();
    }

    int forget() {
        int before = touches.size();
        touches.clear();
        return before;
    }

    /** Who feels a touch, and when: {person, minute}. */
    private List<int[]> feelings(int person, int minute) {
        List<int[]> all = new ArrayList<>();
        int b = birthOf(person);
        if (b == NONE) return all;
        String who = born.get(b);
        if (kind(b) == 1) {
            String turned = who + who;
            int at = who.indexOf('0' + person);
            for (int d = 1; d < who.length(); d++) all.add(new int[] {turned.charAt(at + d) - '0', minute + d});
        } else {
            int other = who.charAt(who.charAt(0) - '0' == person ? 1 : 0) - '0';
            all.add(new int[] {other, minute + (kind(b) == 3 ? amount(b) : 0)});
        }
        return all;
    }

    int felt(int person, int from, int to) {
        if (out(person, 0, 9)) return UNKNOWN;
        if (out(from, 0, 1999) || out(to, from, 1999)) return OUTSIDE;
        int times = 0;
        for (int[] t : touches) {
            for (int[] f : feelings(t[0], t[1])) if (f[0] == person && f[1] >= from && f[1] <= to) times++;
        }
        return times;
    }

    long surely(int person, int from, int to, int part) {
        int times = felt(person, from, to);
        if (times < 0) return times;
        if (out(part, 0, 1)) return OUTSIDE;
        int b = birthOf(person);
        int tenths = b != NONE && kind(b) == 2 ? amount(b) : 10;
        long above = 0;
        for (int outcome = 1; outcome < 1 << times; outcome++) {
            long likely = 1;
            for (int i = 0; i < times; i++) likely *= (outcome >> i & 1) == 1 ? tenths : 10 - tenths;
            above += likely;
        }
        return lowest(BigInteger.valueOf(above), BigInteger.TEN.pow(times), part);
    }

    int over() {
        for (int last = 0; last < touches.size(); last++) {
            for (int person = 0; person < 10; person++) {
                for (int day = 0; day < 20; day++) if (had(person, day, last) > 9) return last;
            }
        }
        return NONE;
    }

    private int had(int person, int day, int last) {
        int sum = 0;
        for (int[] t : touches.subList(0, last + 1)) {
            if (t[0] == person && t[1] / 100 == day) sum++;
            for (int[] f : feelings(t[0], t[1])) if (f[0] == person && f[1] / 100 == day) sum++;
        }
        return sum;
    }

    int soonest(int from, int to) {
        if (out(from, 0, 5) || out(to, 0, 5)) return UNKNOWN;
        return arrivals(from, 0, new int[0])[to];
    }

    int unseen(int from, int to, int set) {
        if (out(from, 0, 5) || out(to, 0, 5)) return UNKNOWN;
        if (out(set, 0, 1023)) return OUTSIDE;
        return arrivals(from, set, new int[0])[to];
    }

    /** Minute by minute: when news from a town are in each town. More bonds stand as towns, two each. */
    private int[] arrivals(int start, int set, int[] bonds) {
        boolean[] come = new boolean[(LONG_ENOUGH + 200) * 6];
        int[] first = new int[6];
        Arrays.fill(first, NONE);
        come[start] = true;
        for (int minute = 0; minute < LONG_ENOUGH; minute++) {
            for (int town = 0; town < 6; town++) {
                if (!come[minute * 6 + town] || first[town] != NONE) continue;
                first[town] = minute;
                for (int to = 0; to < 6; to++) if (roads[town][to] > 0) come[(minute + roads[town][to]) * 6 + to] = true;
                for (int person = 0; person < 10; person++) {
                    if (towns[person] != town || !mayTouch(person, set)) continue;
                    for (int[] f : feelings(person, minute + 1)) come[f[1] * 6 + towns[f[0]]] = true;
                }
                for (int i = 0; i < bonds.length; i += 2) {
                    if (bonds[i] == town) come[(minute + 1) * 6 + bonds[i + 1]] = true;
                    if (bonds[i + 1] == town) come[(minute + 1) * 6 + bonds[i]] = true;
                }
            }
        }
        return first;
    }

    private boolean mayTouch(int person, int set) {
        int b = birthOf(person);
        if (b == NONE || kind(b) == 2) return false;
        for (char c : born.get(b).toCharArray()) if ((set >> (c - '0') & 1) == 1) return false;
        return true;
    }

    int kept(int minutes, int what) {
        if (out(minutes, 0, 999) || out(what, 0, 4)) return OUTSIDE;
        if (timesKept == 20) return STATE;
        timesKept++;
        int[] bonds = firstBonds(minutes);
        if (bonds == null) return NONE;
        if (what == 0) return bonds.length / 2;
        return what <= bonds.length ? bonds[what - 1] : NONE;
    }

    private int[] firstBonds(int minutes) {
        if (allWithin(minutes, new int[0])) return new int[0];
        List<int[]> pairs = new ArrayList<>();
        for (int a = 0; a < 6; a++) for (int b = a + 1; b < 6; b++) pairs.add(new int[] {a, b});
        for (int[] p : pairs) if (allWithin(minutes, p)) return p;
        for (int i = 0; i < pairs.size(); i++) {
            for (int j = i + 1; j < pairs.size(); j++) {
                int[] p = pairs.get(i), q = pairs.get(j);
                int[] both = {p[0], p[1], q[0], q[1]};
                if (allWithin(minutes, both)) return both;
            }
        }
        return null;
    }

    private boolean allWithin(int minutes, int[] bonds) {
        for (int from = 0; from < 6; from++) {
            for (int when : arrivals(from, 0, bonds)) if (when == NONE || when > minutes) return false;
        }
        return true;
    }

    int words(int minutes, int places, int pinches) {
        if (out(minutes, 1, 8) || out(places, 1, 3) || out(pinches, 0, 8)) return OUTSIDE;
        return tellAll(minutes, places, pinches);
    }

    private static int tellAll(int minutes, int places, int pinches) {
        if (minutes == 0) return 1;
        int sum = tellAll(minutes - 1, places, pinches);
        for (int p = 0; p < places && pinches > 0; p++) sum += tellAll(minutes - 1, places, pinches - 1);
        return sum;
    }

    int least(int news, int places, int pinches) {
        if (out(news, 1, 99999) || out(places, 1, 3) || out(pinches, 0, 8)) return OUTSIDE;
        for (int t = 1; t <= 8; t++) if (words(t, places, pinches) >= news) return t;
        return NONE;
    }

    int missed(int minutes, int missed, int what) {
        if (out(minutes, 1, 4) || out(missed, 0, 4) || out(what, 0, 1)) return OUTSIDE;
        int rows = 1 << minutes;
        boolean[][] alike = new boolean[rows][rows];
        for (int r = 0; r < rows; r++) {
            for (int s = 0; s < rows; s++) {
                for (int look = 0; look < rows; look++) {
                    alike[r][s] |= mayLook(r, look, missed) && mayLook(s, look, missed);
                }
            }
        }
        int most = 0, first = 0;
        for (int set = 0; set < 1 << rows; set++) {
            if (Integer.bitCount(set) > most && noneAlike(set, alike)) {
                most = Integer.bitCount(set);
                first = set;
            }
        }
        return what == 0 ? most : first;
    }

    private static boolean mayLook(int row, int look, int missed) {
        return (row | look) == row && Integer.bitCount(row) - Integer.bitCount(look) <= missed;
    }

    private static boolean noneAlike(int set, boolean[][] alike) {
        for (int r = 0; r < alike.length; r++) {
            for (int s = 0; s < r; s++) {
                if ((set >> r & 1) == 1 && (set >> s & 1) == 1 && alike[r][s]) return false;
            }
        }
        return true;
    }

    int book(int word) {
        if (out(word, 0, 255)) return OUTSIDE;
        if (book.contains(word)) return STATE;
        if (book.size() == 4) return FULL;
        book.add(word);
        return book.size();
    }

    long read(int word, int came, int odds, int part) {
        if (out(word, 0, book.size() - 1)) return UNKNOWN;
        if (out(came, 0, 255) || out(odds, 0, 9) || out(part, 0, 1)) return OUTSIDE;
        BigInteger all = BigInteger.ZERO;
        for (int w : book) all = all.add(likely(w, came, odds));
        if (all.signum() == 0) return NONE;
        return lowest(likely(book.get(word), came, odds), all, part);
    }

    /** In parts of ten to the eighth. */
    private static BigInteger likely(int word, int came, int odds) {
        BigInteger product = BigInteger.ONE;
        for (int i = 0; i < 8; i++) {
            boolean told = (word >> i & 1) == 1, seen = (came >> i & 1) == 1;
            int tenths = told ? (seen ? 10 - odds : odds) : (seen ? 0 : 10);
            product = product.multiply(BigInteger.valueOf(tenths));
        }
        return product;
    }

    int crowd(int n) {
        if (n != 2 && n != 4 && n != 6 && n != 8) return OUTSIDE;
        int before = crowd;
        crowd = n;
        winces.clear();
        hasImage = false;
        return before;
    }

    int wince(int one, int set) {
        if (out(one, 0, crowd - 1)) return UNKNOWN;
        if (out(set, 0, (1 << crowd) - 1)) return OUTSIDE;
        if (winces.size() == 8) return FULL;
        winces.add(new int[] {one, set});
        return winces.size();
    }

    private List<int[]> fittingPairings() {
        List<int[]> fitting = new ArrayList<>();
        int[] twins = new int[crowd];
        Arrays.fill(twins, NONE);
        pair(twins, fitting);
        return fitting;
    }

    private void pair(int[] twins, List<int[]> fitting) {
        int one = 0;
        while (one < crowd && twins[one] != NONE) one++;
        if (one == crowd) {
            for (int[] w : winces) if ((w[1] >> twins[w[0]] & 1) == 0) return;
            fitting.add(twins.clone());
            return;
        }
        for (int other = one + 1; other < crowd; other++) {
            if (twins[other] != NONE) continue;
            twins[one] = other;
            twins[other] = one;
            pair(twins, fitting);
            twins[one] = twins[other] = NONE;
        }
    }

    int pairings() {
        return fittingPairings().size();
    }

    int twin(int one) {
        if (out(one, 0, crowd - 1)) return UNKNOWN;
        Set<Integer> all = new HashSet<>();
        for (int[] twins : fittingPairings()) all.add(twins[one]);
        return all.size() == 1 ? all.iterator().next() : NONE;
    }

    long round(int many, int odds, int part) {
        if (out(many, 2, 9) || out(odds, 0, 9) || out(part, 0, 1)) return OUTSIDE;
        return lowest(BigInteger.valueOf(odds).pow(many - 1), BigInteger.TEN.pow(many - 1), part);
    }

    int image() {
        hasImage = true;
        imageTowns = towns.clone();
        imageTouches = new ArrayList<>(touches);
        imageBook = new ArrayList<>(book);
        imageWinces = new ArrayList<>(winces);
        return touches.size();
    }

    int restore() {
        if (!hasImage) return STATE;
        towns = imageTowns.clone();
        touches = new ArrayList<>(imageTouches);
        book = new ArrayList<>(imageBook);
        winces = new ArrayList<>(imageWinces);
        return touches.size();
    }

    int count(int what) {
        if (out(what, 0, 8)) return OUTSIDE;
        int roadCount = 0;
        for (int a = 0; a < 6; a++) for (int b = 0; b < a; b++) if (roads[a][b] > 0) roadCount++;
        return new int[] {births.size(), touches.size(), roadCount, book.size(), crowd, winces.size(),
            page.length(), timesRead, timesKept}[what];
    }

    long digest() {
        List<Integer> all = new ArrayList<>();
        for (int b = 0; b < births.size(); b++) for (int what = 0; what <= 6; what++) all.add(birth(b, what));
        for (int p = 0; p < 10; p++) {
            for (int what = 0; what <= 2; what++) all.add(about(p, what));
            all.add(felt(p, 0, 1999));
        }
        all.add(over());
        for (int from = 0; from < 6; from++) for (int when : arrivals(from, 0, new int[0])) all.add(when);
        all.addAll(book);
        all.add(pairings());
        for (int one = 0; one < crowd; one++) all.add(twin(one));
        for (char c : page.toCharArray()) all.add((int) c);
        for (int what = 0; what <= 8; what++) all.add(count(what));
        long h = 577;
        for (int number : all) h = 31 * h + number;
        return h;
    }

    private static boolean out(int number, int least, int most) {
        return number < least || number > most;
    }

    private static long lowest(BigInteger above, BigInteger below, int part) {
        BigInteger divisor = above.gcd(below);
        return (part == 0 ? above : below).divide(divisor).longValueExact();
    }
}
