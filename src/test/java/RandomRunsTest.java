import java.util.ArrayList;
import java.util.Collections;
import java.util.List;
import java.util.Random;

/** Long runs of calls, mostly as told and some not, on FeltByTwin and on PlainTwin: all answers are the same. */
public final class RandomRunsTest {
    private static final int RUNS = 600;
    // What an object answers behind its 512th call is free; one step makes fewer than twelve calls.
    private static final int CALLS = 512;
    private static final int MOST_IN_A_STEP = 12;
    private static final int[] ODD = {-1, -2, 1 << 20, Integer.MAX_VALUE, Integer.MIN_VALUE};

    private final Check check;
    private final Random random;
    private final FeltByTwin x = new FeltByTwin();
    private final PlainTwin plain = new PlainTwin();
    private String run;
    private int made;

    private RandomRunsTest(Check check, int seed) {
        this.check = check;
        random = new Random(seed);
        run = "run " + seed;
    }

    public static void main(String[] args) {
        Check check = new Check();
        for (int seed = 0; seed < RUNS && check.wrong() < 20; seed++) {
            new RandomRunsTest(check, seed).go();
        }
        check.end();
    }

    private void go() {
        while (made + MOST_IN_A_STEP < CALLS) {
            switch (random.nextInt(8)) {
                case 0: townsCall(); break;
                case 1: pageCall(); break;
                case 2: touchCall(); break;
                case 3: feelCall(); break;
                case 4: newsCall(); break;
                case 5: wordsCall(); break;
                case 6: crowdCall(); break;
                default: tellCall(); break;
            }
        }
        same("digest()", x.digest(), plain.digest());
    }

    /** A number from least to most; now and then one beside them, or far from them. */
    private int some(int least, int most) {
        int kind = random.nextInt(40);
        if (kind == 0) return ODD[random.nextInt(ODD.length)];
        if (kind == 1) return most + 1;
        if (kind == 2) return least - 1;
        if (kind == 3) return most;
        if (kind == 4) return least;
        return least + random.nextInt(most - least + 1);
    }

    private void same(String call, long got, long due) {
        made++;
        check.same(run + ": " + call, got, due);
    }

    private void townsCall() {
        int a = some(0, 5), b = some(0, 5), p = some(0, 9), m = random.nextInt(4) == 0 ? 0 : some(0, 99);
        if (random.nextInt(3) == 0) {
            same("road(" + a + ", " + b + ", " + m + ")", x.road(a, b, m), plain.road(a, b, m));
        } else {
            same("town(" + p + ", " + a + ")", x.town(p, a), plain.town(p, a));
        }
    }

    private void pageCall() {
        switch (random.nextInt(6)) {
            case 0:
                same("blank()", x.blank(), plain.blank());
                break;
            case 1:
                write(noise());
                break;
            case 2:
                long w = random.nextInt(3) == 0 ? random.nextLong() : random.nextLong() & 0x7f7f7f7f7f7f7fL;
                same("letters(" + w + ")", x.letters(w), plain.letters(w));
                break;
            default:
                if (random.nextInt(3) != 0) same("blank()", x.blank(), plain.blank());
                write(birthsText());
                break;
        }
        same("fault()", x.fault(), plain.fault());
        if (random.nextInt(2) == 0) same("births()", x.births(), plain.births());
    }

    private void write(String text) {
        for (int at = 0; at < text.length(); at += 8) {
            long w = 0;
            for (int i = Math.min(text.length(), at + 8) - 1; i >= at; i--) w = w << 8 | text.charAt(i);
            same("letters of " + text, x.letters(w), plain.letters(w));
        }
    }

    private String noise() {
        StringBuilder text = new StringBuilder();
        for (int i = random.nextInt(8); i > 0; i--) text.append("0123456789,o?+ /:".charAt(random.nextInt(17)));
        return text.toString();
    }

    private String birthsText() {
        List<Integer> people = new ArrayList<>();
        for (int i = 0; i < 10; i++) people.add(i);
        Collections.shuffle(people, random);
        StringBuilder text = new StringBuilder();
        for (int births = 1 + random.nextInt(6), used = 0; births > 0; births--) {
            int kind = random.nextInt(4);
            int many = kind == 1 ? 3 + random.nextInt(2) : 2;
            if (random.nextInt(30) == 0) many += random.nextInt(3) - 1;
            if (text.length() > 0) text.append(',');
            text.append(new String[] {"", "o", "?", "+"}[kind]);
            if (kind >= 2) text.append(random.nextInt(20) == 0 ? 0 : 1 + random.nextInt(9));
            for (int i = 0; i < many; i++, used++) {
                text.append(used < 10 ? people.get(used) : random.nextInt(10));
            }
            if (used > 8 && random.nextInt(3) != 0) break;
        }
        return text.toString();
    }

    private void touchCall() {
        int kind = random.nextInt(20);
        if (kind == 0) {
            same("forget()", x.forget(), plain.forget());
        } else {
            int p = kind < 8 ? some(0, 9) : random.nextInt(3);
            int m = kind < 12 ? some(0, 999) : 990 + random.nextInt(10);
            same("touch(" + p + ", " + m + ")", x.touch(p, m), plain.touch(p, m));
        }
        same("over()", x.over(), plain.over());
    }

    private void feelCall() {
        int p = some(0, 9), part = some(0, 1);
        int from = random.nextInt(3) == 0 ? 0 : some(0, 1999);
        int to = random.nextInt(4) == 0 ? from : some(Math.max(0, Math.min(from, 1999)), 1999);
        String span = p + ", " + from + ", " + to;
        same("felt(" + span + ")", x.felt(p, from, to), plain.felt(p, from, to));
        same("surely(" + span + ", " + part + ")", x.surely(p, from, to, part), plain.surely(p, from, to, part));
    }

    private void newsCall() {
        int from = some(0, 5), to = some(0, 5), set = random.nextInt(2) == 0 ? 1 << random.nextInt(10) : some(0, 1023);
        int minutes = random.nextInt(3) == 0 ? some(0, 999) : random.nextInt(60), what = some(0, 4);
        if (random.nextInt(8) == 0) {
            same("kept(" + minutes + ", " + what + ")", x.kept(minutes, what), plain.kept(minutes, what));
        }
        same("soonest(" + from + ", " + to + ")", x.soonest(from, to), plain.soonest(from, to));
        same("unseen(" + from + ", " + to + ", " + set + ")", x.unseen(from, to, set), plain.unseen(from, to, set));
    }

    private void wordsCall() {
        int t = some(1, 8), p = some(1, 3), k = some(0, 8), n = random.nextInt(2) == 0 ? some(1, 99999) : some(1, 300);
        int w = random.nextInt(2) == 0 ? random.nextInt(16) : some(0, 255);
        int c = random.nextInt(2) == 0 ? random.nextInt(4) : some(0, 255);
        switch (random.nextInt(6)) {
            case 0:
                same("words(" + t + ", " + p + ", " + k + ")", x.words(t, p, k), plain.words(t, p, k));
                break;
            case 1:
                same("least(" + n + ", " + p + ", " + k + ")", x.least(n, p, k), plain.least(n, p, k));
                break;
            case 2:
                same("book(" + w + ")", x.book(w), plain.book(w));
                break;
            case 3:
                int rows = some(1, 3), e = some(0, 4), what = some(0, 1);
                same("missed(" + rows + ", " + e + ", " + what + ")",
                    x.missed(rows, e, what), plain.missed(rows, e, what));
                break;
            default:
                int word = some(0, 3), odds = some(0, 9), part = some(0, 1);
                same("read(" + word + ", " + c + ", " + odds + ", " + part + ")",
                    x.read(word, c, odds, part), plain.read(word, c, odds, part));
                break;
        }
    }

    private void crowdCall() {
        int one = some(0, 7), set = random.nextInt(2) == 0 ? 255 & ~(1 << random.nextInt(8)) : some(0, 255);
        int masked = set & ((1 << plain.count(4)) - 1);
        switch (random.nextInt(12)) {
            case 0:
                int n = random.nextInt(3) == 0 ? some(0, 9) : 2 + 2 * random.nextInt(4);
                same("crowd(" + n + ")", x.crowd(n), plain.crowd(n));
                break;
            case 1:
                same("wince(" + one + ", " + set + ")", x.wince(one, set), plain.wince(one, set));
                break;
            case 2:
            case 3:
            case 4:
                same("wince(" + one + ", " + masked + ")", x.wince(one, masked), plain.wince(one, masked));
                break;
            case 5:
                int many = some(2, 9), odds = some(0, 9), part = some(0, 1);
                same("round(" + many + ", " + odds + ", " + part + ")",
                    x.round(many, odds, part), plain.round(many, odds, part));
                break;
            default:
                same("pairings()", x.pairings(), plain.pairings());
                same("twin(" + one + ")", x.twin(one), plain.twin(one));
                break;
        }
    }

    private void tellCall() {
        int b = some(0, 4), what = some(0, 8), p = some(0, 9);
        switch (random.nextInt(8)) {
            case 0:
                same("image()", x.image(), plain.image());
                break;
            case 1:
                same("restore()", x.restore(), plain.restore());
                break;
            case 2:
                same("count(" + what + ")", x.count(what), plain.count(what));
                break;
            case 3:
                same("digest()", x.digest(), plain.digest());
                break;
            case 4:
                same("birth(" + b + ", " + what + ")", x.birth(b, what), plain.birth(b, what));
                break;
            case 5:
                same("as(" + b + ", " + what + ")", x.as(b, what), plain.as(b, what));
                break;
            default:
                same("about(" + p + ", " + what % 4 + ")", x.about(p, what % 4), plain.about(p, what % 4));
                break;
        }
    }
}
