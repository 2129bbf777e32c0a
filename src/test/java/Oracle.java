import java.util.ArrayList;
import java.util.LinkedHashSet;
import java.util.List;
import java.util.Set;

/**
 * The document told a second time, in another way and with no regard to speed, so that FuzzTest can
 * lay the two beside each other: Java's own inheritance for KINDS and ACTS, a LAND as its text that
 * is read anew for every PERSON, the FAULT by the grammar's derivations.
 */
final class Oracle {
    static final int NONE = -1, BAD = -2, STATE = -3, FULL = -4, NEVER = -5;
    static final long NO = Long.MIN_VALUE;

    /** Everybody is a Soul; the kinds are told by classes as the document's bodies are. */
    static class Soul implements Cloneable {
        int i, kind, v, thanks, got;
        boolean dead;
        int[] row = new int[4];

        Soul copy() {
            try {
                Soul s = (Soul) clone();
                s.row = row.clone();
                return s;
            } catch (CloneNotSupportedException e) {
                throw new IllegalStateException(e);
            }
        }

        boolean lets(All a) {
            return !dead && a.welcome(this) >= 0;
        }

        int prays(All a) {
            return thanks / 10;
        }

        int forGold(int g) {
            return g;
        }

        int opens(int x, List<Integer> t) {
            t.add(10);
            return x + i;
        }

        int prays(int x, List<Integer> t) {
            t.add(11);
            return opens(x, t) - v;
        }

        int tells(int x, List<Integer> t) {
            t.add(12);
            return prays(x, t) * 2;
        }
    }

    static class Devout extends Soul {
        int prays(All a) {
            return thanks / 5;
        }

        int prays(int x, List<Integer> t) {
            t.add(20);
            return super.prays(x, t) ^ 6;
        }
    }

    static class Fearful extends Soul {
        boolean lets(All a) {
            return super.lets(a) && a.smell <= 100;
        }

        int prays(All a) {
            return thanks / 10 + (lets(a) ? v : 0);
        }

        int forGold(int g) {
            return g / 2;
        }

        int opens(int x, List<Integer> t) {
            t.add(30);
            return super.opens(x * 3, t);
        }
    }

    static class Greedy extends Soul {
        int forGold(int g) {
            return g + v;
        }

        int tells(int x, List<Integer> t) {
            t.add(40);
            int first = super.tells(x, t);
            return first + prays(1, t);
        }
    }

    static final class False extends Devout {
        int prays(All a) {
            return a.day % (v + 2) == 0 ? 0 : super.prays(a);
        }

        int opens(int x, List<Integer> t) {
            t.add(50);
            return -super.opens(x, t);
        }

        int prays(int x, List<Integer> t) {
            t.add(51);
            return super.prays(x + 1, t);
        }
    }

    static final class Hired extends Fearful {
        boolean lets(All a) {
            return !dead && a.welcome(this) >= 0;
        }

        int prays(All a) {
            return thanks > 0 ? 3 : 0;
        }

        int tells(int x, List<Integer> t) {
            t.add(60);
            return super.tells(x - i, t);
        }
    }

    static final class Told extends Greedy {
        int prays(All a) {
            return super.prays(a) + row[a.day % 4];
        }

        int prays(int x, List<Integer> t) {
            t.add(70);
            int first = super.prays(x, t);
            return first + super.opens(2, t);
        }

        int opens(int x, List<Integer> t) {
            t.add(71);
            return super.opens(x, t) ^ v;
        }
    }

    static Soul made(int kind) {
        switch (kind) {
            case 0: return new Soul();
            case 1: return new Devout();
            case 2: return new Fearful();
            case 3: return new Greedy();
            case 4: return new False();
            case 5: return new Hired();
            default: return new Told();
        }
    }

    static Class<?> classOf(int kind) {
        return made(kind).getClass();
    }

    /** All that goes on in a day and all that THE IMAGE holds. */
    static final class All {
        List<Soul> souls = new ArrayList<>();
        int health = 50, smell, day;
        List<Integer> round = new ArrayList<>();
        String land = "";
        int otherCold = -1, otherPocket = -1;
        List<int[]> seen = new ArrayList<>(), winter = new ArrayList<>(), book = new ArrayList<>();

        All copy() {
            All a = new All();
            for (Soul s : souls) {
                a.souls.add(s.copy());
            }
            a.health = health;
            a.smell = smell;
            a.day = day;
            a.round = new ArrayList<>(round);
            a.land = land;
            a.seen = new ArrayList<>(seen);
            a.winter = new ArrayList<>(winter);
            a.book = new ArrayList<>(book);
            return a;
        }

        int last(String word, int without) {
            int n = without;
            for (String clause : land.split(";")) {
                String[] parts = clause.split(" ");
                if (parts[0].equals(word)) {
                    n = Integer.parseInt(parts[1]);
                }
            }
            return n;
        }

        int cold() {
            return otherCold >= 0 ? otherCold : last("cold", 5);
        }

        int pocket() {
            return otherPocket >= 0 ? otherPocket : last("pocket", 10);
        }

        int stink() {
            return last("stink", 1);
        }

        int door(Soul s) {
            int n = 0;
            for (String clause : land.split(";")) {
                String[] parts = clause.split(" ");
                if (parts.length == 3 && new Reading(parts[2], s, this).e()) {
                    n += (parts[0].equals("open") ? 1 : -1) * Integer.parseInt(parts[1]);
                }
            }
            return n;
        }

        int welcome(Soul s) {
            return door(s) + s.thanks - smell / 10;
        }

        int letBits() {
            int bits = 0;
            for (Soul s : souls) {
                bits += s.lets(this) ? 1 << s.i : 0;
            }
            return bits;
        }

        int prayers() {
            int n = 0;
            for (Soul s : souls) {
                n += s.dead ? 0 : s.prays(this);
            }
            return n;
        }

        All days(int n) {
            for (int k = 0; k < n; k++) {
                if (health == 0) {
                    continue;
                }
                int better = prayers();
                int harm = cold();
                for (Soul s : souls) {
                    harm -= s.lets(this) ? 1 : 0;
                }
                if (harm < 0) {
                    harm = 0;
                }
                if (!round.isEmpty()) {
                    Soul s = souls.get(round.get(day % round.size()));
                    if (!s.dead) {
                        s.got = Math.min(99999, s.got + pocket());
                        s.thanks = Math.min(999, s.thanks + s.forGold(pocket()));
                    }
                }
                for (Soul s : souls) {
                    if (s.thanks > 0) {
                        s.thanks--;
                    }
                }
                health = Math.max(0, Math.min(999, health + better - harm));
                smell = Math.min(999, smell + stink());
                day++;
            }
            return this;
        }
    }

    /** Reads an E that is known to be whole, for one PERSON. */
    static final class Reading {
        final String e;
        final Soul s;
        final All a;
        int at;

        Reading(String e, Soul s, All a) {
            this.e = e;
            this.s = s;
            this.a = a;
        }

        char next() {
            return at < e.length() ? e.charAt(at) : 0;
        }

        boolean e() {
            boolean t = t();
            if (next() != '|') {
                return t;
            }
            at++;
            boolean rest = e();
            return t || rest;
        }

        boolean t() {
            boolean f = f();
            if (next() != '&') {
                return f;
            }
            at++;
            boolean rest = t();
            return f && rest;
        }

        boolean f() {
            char c = e.charAt(at++);
            if (c == '!') {
                return !f();
            }
            if (c == '(') {
                boolean is = e();
                at++;
                return is;
            }
            char sign = e.charAt(at++);
            int n = 0;
            while (Character.isDigit(next())) {
                n = n * 10 + next() - '0';
                at++;
            }
            int is = c == 'p' ? s.i : c == 'k' ? s.kind : c == 'v' ? s.v : c == 't' ? s.thanks / 10
                : c == 's' ? a.smell / 10 : a.day % 10;
            return sign == '<' ? is < n : sign == '>' ? is > n : is == n;
        }
    }

    /**
     * The FAULT by the grammar itself: all the rows of symbols that can still follow what was read.
     * A symbol above 255 stands for a part of the grammar and a number.
     */
    static final class Grammar {
        static final int L = 1, C = 2, N = 3, E = 4, T = 5, F = 6;

        static char part(int which, int n) {
            return (char) (256 + which * 16 + n);
        }

        static List<String> ways(char symbol) {
            int which = (symbol - 256) / 16;
            int n = (symbol - 256) % 16;
            List<String> ways = new ArrayList<>();
            switch (which) {
                case L:
                    ways.add("" + part(C, 0));
                    if (n > 1) {
                        ways.add(part(C, 0) + ";" + part(L, n - 1));
                    }
                    break;
                case C:
                    ways.add("open " + part(N, 0) + " " + part(E, 0));
                    ways.add("shut " + part(N, 0) + " " + part(E, 0));
                    ways.add("cold " + part(N, 0));
                    ways.add("pocket " + part(N, 0));
                    ways.add("stink " + part(N, 0));
                    break;
                case N:
                    for (char a = '0'; a <= '9'; a++) {
                        ways.add("" + a);
                        for (char b = '0'; b <= '9'; b++) {
                            ways.add("" + a + b);
                        }
                    }
                    break;
                case E:
                    ways.add("" + part(T, n));
                    ways.add(part(T, n) + "|" + part(E, n));
                    break;
                case T:
                    ways.add("" + part(F, n));
                    ways.add(part(F, n) + "&" + part(T, n));
                    break;
                default:
                    if (n < 4) {
                        ways.add("!" + part(F, n + 1));
                        ways.add("(" + part(E, n + 1) + ")");
                    }
                    for (char letter : "pkvtsd".toCharArray()) {
                        for (char sign : "<=>".toCharArray()) {
                            ways.add("" + letter + sign + part(N, 0));
                        }
                    }
                    break;
            }
            return ways;
        }

        static void spread(String row, Set<String> into) {
            if (row.isEmpty() || row.charAt(0) < 256) {
                into.add(row);
                return;
            }
            for (String way : ways(row.charAt(0))) {
                spread(way + row.substring(1), into);
            }
        }

        /** -1: the text is a LAND. */
        static int fault(String text) {
            Set<String> open = new LinkedHashSet<>();
            spread("" + part(L, 10), open);
            for (int i = 0; i < text.length(); i++) {
                Set<String> next = new LinkedHashSet<>();
                for (String row : open) {
                    if (!row.isEmpty() && row.charAt(0) == text.charAt(i)) {
                        spread(row.substring(1), next);
                    }
                }
                if (next.isEmpty()) {
                    return i;
                }
                open = next;
            }
            return open.contains("") ? -1 : text.length();
        }
    }

    All a = new All();
    All kept;
    List<String> lands = new ArrayList<>();
    String text = "";
    List<Integer> trace = new ArrayList<>();
    long[][] tapes = new long[6][];
    int[] sorts = new int[6];

    boolean is(int p) {
        return 0 <= p && p < a.souls.size();
    }

    static boolean in(int n, int from, int to) {
        return from <= n && n <= to;
    }

    int person(int kind, int v, int thanks) {
        if (!in(kind, 0, 6)) return NONE;
        if (!in(v, 0, 9) || !in(thanks, 0, 999)) return BAD;
        if (a.souls.size() == 6) return FULL;
        Soul s = made(kind);
        s.i = a.souls.size();
        s.kind = kind;
        s.v = v;
        s.thanks = thanks;
        a.souls.add(s);
        return s.i;
    }

    int of(int person, int what) {
        if (!is(person) || what < 0 || what == 8 || what == 9 || what > 109) return -10001;
        Soul s = a.souls.get(person);
        int[] all = {s.kind, s.v, s.thanks, s.got, s.dead ? 1 : 0, a.welcome(s), s.lets(a) ? 1 : 0, s.dead ? 0 : s.prays(a)};
        return what < 8 ? all[what] : s.forGold(what - 10);
    }

    int thanks(int person, int n) {
        if (!is(person)) return NONE;
        if (!in(n, 0, 999)) return BAD;
        Soul s = a.souls.get(person);
        int was = s.thanks;
        s.thanks = n;
        return was;
    }

    int kill(int person, boolean is) {
        if (!is(person)) return NONE;
        Soul s = a.souls.get(person);
        int was = s.dead ? 1 : 0;
        s.dead = is;
        return was;
    }

    int row(int person, int part, int n) {
        if (!is(person) || !in(part, 0, 3)) return NONE;
        if (!in(n, 0, 9)) return BAD;
        Soul s = a.souls.get(person);
        if (!(s instanceof Told)) return STATE;
        int was = s.row[part];
        s.row[part] = n;
        return was;
    }

    int soldier(int what, int n) {
        if (what != 0 && what != 1) return NONE;
        if (!in(n, 0, 999)) return BAD;
        int was = what == 0 ? a.health : a.smell;
        if (what == 0) a.health = n; else a.smell = n;
        return was;
    }

    int round(int person) {
        if (person == -1) {
            a.round.clear();
            return 0;
        }
        if (!is(person)) return NONE;
        if (a.round.size() == 6) return FULL;
        a.round.add(person);
        return a.round.size();
    }

    int feed(int sign) {
        if (!in(sign, 0, 127)) return BAD;
        if (text.length() == 100) return FULL;
        text += (char) sign;
        return text.length();
    }

    int land() {
        if (lands.size() == 6) return FULL;
        String it = text;
        text = "";
        int fault = Grammar.fault(it);
        if (fault >= 0) return -10 - fault;
        lands.add(it);
        a.land = it;
        return lands.size() - 1;
    }

    int told(int what) {
        if (in(what, 10, 9 + a.round.size())) return a.round.get(what - 10);
        if (!in(what, 0, 7)) return NONE;
        return new int[] {a.day, a.health, a.smell, a.cold(), a.pocket(), a.stink(), a.letBits(), a.prayers()}[what];
    }

    int pass(int n) {
        if (!in(n, 0, 60)) return BAD;
        if (a.health == 0 || a.day + n > 9999) return STATE;
        return a.days(n).health;
    }

    int on(int n, int what) {
        boolean t = what >= 10 && what < 10 + a.souls.size();
        boolean g = what >= 20 && what < 20 + a.souls.size();
        if (!t && !g && !in(what, 0, 2)) return NONE;
        if (!in(n, 0, 60)) return BAD;
        All b = a.copy().days(n);
        return t ? b.souls.get(what - 10).thanks : g ? b.souls.get(what - 20).got
            : what == 0 ? b.health : what == 1 ? b.smell : b.letBits();
    }

    int dies() {
        for (int n = 0; n <= 99; n++) {
            if (a.copy().days(n).health == 0) return n;
        }
        return NEVER;
    }

    int worst(int n, int what) {
        if (what != 0 && what != 1) return NONE;
        if (!in(n, 0, 60)) return BAD;
        int[] healths = new int[n + 1];
        int least = 1000;
        for (int k = 0; k <= n; k++) {
            healths[k] = a.copy().days(k).health;
            least = Math.min(least, healths[k]);
        }
        int first = 0;
        while (healths[first] != least) first++;
        return what == 0 ? least : first;
    }

    int aim() {
        int best = NEVER, well = -1;
        for (int p = a.souls.size() - 1; p >= 0; p--) {
            All b = a.copy();
            b.round = new ArrayList<>(List.of(p));
            int h = b.days(40).health;
            if (h >= well) {
                best = p;
                well = h;
            }
        }
        return best;
    }

    int swap() {
        int is = a.copy().days(40).health;
        int best = NEVER, well = is + 1;
        for (int code = 99; code >= 0; code--) {
            int i = code / 10, j = code % 10;
            if (i >= j || j >= a.round.size()) continue;
            All b = a.copy();
            b.round.set(i, a.round.get(j));
            b.round.set(j, a.round.get(i));
            int h = b.days(40).health;
            if (h >= well) {
                best = code;
                well = h;
            }
        }
        return best;
    }

    int enough(int n) {
        if (!in(n, 1, 20)) return BAD;
        int best = NEVER;
        for (int g = 40; g >= 0; g--) {
            All b = a.copy();
            b.otherPocket = g;
            if (b.days(n).health > 0) best = g;
        }
        return best;
    }

    int bears(int n) {
        if (!in(n, 1, 20)) return BAD;
        int best = NEVER;
        for (int c = 0; c <= 40; c++) {
            All b = a.copy();
            b.otherCold = c;
            if (b.days(n).health > 0) best = c;
        }
        return best;
    }

    boolean goneIfDead(int p, int n) {
        All b = a.copy();
        b.souls.get(p).dead = true;
        return b.days(n).health == 0;
    }

    int whose(int n) {
        if (!in(n, 1, 60)) return BAD;
        int bits = 0;
        boolean anyway = a.copy().days(n).health == 0;
        for (Soul s : a.souls) {
            if (!anyway && !s.dead && goneIfDead(s.i, n)) bits |= 1 << s.i;
        }
        return bits;
    }

    static int told(List<int[]> rows, int most, int one, int two) {
        if (rows.size() == most) return FULL;
        rows.add(new int[] {one, two});
        return rows.size();
    }

    int see(int health, int n) {
        if (health == -1) {
            a.seen.clear();
            return 0;
        }
        if (!in(health, 0, 999) || !in(n, 0, 20)) return BAD;
        return told(a.seen, 5, health, n);
    }

    int search(int person, int what, int most) {
        if (!is(person) || (what != 0 && what != 1)) return NONE;
        List<Integer> found = new ArrayList<>();
        for (int n = 0; n <= most; n++) {
            boolean all = true;
            for (int[] row : a.seen) {
                All b = a.copy();
                if (most == 40) b.souls.get(person).thanks = n; else b.souls.get(person).v = n;
                all &= b.days(row[1]).health == row[0];
            }
            if (all) found.add(n);
        }
        return what == 0 ? found.size() : found.isEmpty() ? NEVER : found.get(0);
    }

    int was(int person, int what) {
        return search(person, what, 40);
    }

    int can(int person, int what) {
        return search(person, what, 9);
    }

    static long part(long above, long below, int part) {
        long g = java.math.BigInteger.valueOf(above).gcd(java.math.BigInteger.valueOf(below)).longValue();
        return part == 0 ? above / g : part == 1 ? below / g : NO;
    }

    long odds(int n, int part) {
        if (!in(n, 0, 60) || a.souls.isEmpty()) return NO;
        int lives = 0;
        for (Soul s : a.souls) {
            if (!goneIfDead(s.i, n)) lives++;
        }
        return part(lives, a.souls.size(), part);
    }

    long mean(int n, int part) {
        if (!in(n, 0, 60) || a.souls.isEmpty()) return NO;
        return part(a.copy().days(n).souls.stream().mapToInt(s -> s.thanks).sum(), a.souls.size(), part);
    }

    int winter(int what, int person) {
        if (what == -1) {
            a.winter.clear();
            return 0;
        }
        if (!in(what, 0, 3) || what == 1 && !is(person)) return NONE;
        return told(a.winter, 10, what, person);
    }

    int gone(int what) {
        if (what != 0 && what != 1) return NONE;
        All b = a.copy();
        for (int[] row : b.winter) {
            if (row[0] == 0) b.days(1);
            if (row[0] == 1) b.souls.get(row[1]).dead = true;
            if (row[0] == 2) b.health = Math.max(0, b.health - 10);
            if (row[0] == 3) b.smell = 0;
        }
        return what == 0 ? b.health : b.smell;
    }

    int book(int person, int thanks) {
        if (person == -1) {
            a.book.clear();
            return 0;
        }
        if (!is(person)) return NONE;
        if (!in(thanks, 0, 999)) return BAD;
        return told(a.book, 8, person, thanks);
    }

    int looked() {
        for (int[] row : a.book) {
            if (a.souls.get(row[0]).thanks != row[1]) return a.book.indexOf(row);
        }
        return NEVER;
    }

    int judge(int tape, int i) {
        if (!in(tape, 0, 5)) return NONE;
        if (tapes[tape] != null && sorts[tape] != 1) return -12;
        int k = 0;
        try {
            for (; k < a.souls.size(); k++) {
                if (tapes[tape][i + k] != a.souls.get(k).thanks) return k;
            }
            return NEVER;
        } catch (NullPointerException | ArrayIndexOutOfBoundsException e) {
            return 100 + k;
        }
    }

    int image() {
        kept = a.copy();
        return a.souls.size();
    }

    int undo() {
        if (kept == null) return STATE;
        a = kept.copy();
        return a.souls.size();
    }

    int act(int person, int act, int x) {
        trace.clear();
        if (!is(person) || !in(act, 0, 2)) return 0;
        Soul s = a.souls.get(person);
        return act == 0 ? s.opens(x, trace) : act == 1 ? s.prays(x, trace) : s.tells(x, trace);
    }

    int trace(int i) {
        return i >= 0 && i < trace.size() && i < 20 ? trace.get(i) : NONE;
    }

    int taken(int person, int k) {
        if (!in(k, 0, 6)) return BAD;
        if (!is(person)) return -11;
        Soul s = a.souls.get(person);
        return classOf(k).isInstance(s) ? s.kind : -12;
    }

    int count(int what) {
        if (!in(what, 0, 7)) return BAD;
        return new int[] {a.souls.size(), lands.size(), a.round.size(), a.seen.size(), a.winter.size(), a.book.size(),
            text.length(), trace.size()}[what];
    }

    int tape(int tape, int sort, int n) {
        if (!in(tape, 0, 5)) return NONE;
        if (sort == -1) {
            tapes[tape] = null;
            return 1;
        }
        if (!in(sort, 0, 4) || n > 60) return BAD;
        if (n < 0) return -14;
        sorts[tape] = sort;
        tapes[tape] = new long[n];
        return 1;
    }

    int item(int tape, int i, long v) {
        if (!in(tape, 0, 5)) return NONE;
        if (tapes[tape] == null) return -11;
        if (i < 0 || i >= tapes[tape].length) return -13;
        long[] cut = {(byte) v, (short) v, (int) v, v, v != 0 ? 1 : 0};
        tapes[tape][i] = cut[sorts[tape]];
        return 1;
    }

    long read(int tape, int i) {
        if (!in(tape, 0, 5) || tapes[tape] == null || i < 0 || i >= tapes[tape].length) return NO;
        return tapes[tape][i];
    }

    int shift(int tape, int i, int other, int j, int n) {
        if (!in(tape, 0, 5) || !in(other, 0, 5)) return NONE;
        if (tapes[tape] == null || tapes[other] == null) return -11;
        if (sorts[tape] != sorts[other]) return -12;
        try {
            System.arraycopy(tapes[tape], i, tapes[other], j, n);
        } catch (ArrayIndexOutOfBoundsException e) {
            return -13;
        }
        return n;
    }
}
