import java.lang.reflect.Method;
import java.util.ArrayList;
import java.util.Arrays;
import java.util.HashMap;
import java.util.List;
import java.util.Map;
import java.util.Random;

/** Runs of chance calls, the same each time, answered by the program and by the Oracle. */
public final class FuzzTest {
    private static final int CALLS = 512;
    private final Random chance;
    private final SevenUnwashed program = new SevenUnwashed();
    private final Oracle oracle = new Oracle();
    private final StringBuilder told = new StringBuilder();
    private boolean wrong;
    private int calls;

    private static final Map<String, Method> PROGRAM = new HashMap<>();
    private static final Map<String, Method> ORACLE = new HashMap<>();
    private static final List<String> NAMES = new ArrayList<>();

    /** How often a call comes; the others come once. */
    private static final String OFTEN = "person thanks thanks row row round round pass of of of told on on item item "
        + "tape see winter winter book shift judge was was can can enough bears whose swap swap odds mean dies worst "
        + "gone looked aim act act trace";

    private FuzzTest(long seed) {
        chance = new Random(seed);
    }

    private int from(int... these) {
        return these[chance.nextInt(these.length)];
    }

    private int within(int least, int most) {
        return least + chance.nextInt(most - least + 1);
    }

    /** An argument of the range that its call takes, or a little beside it, or anything. */
    private int argument(String name, int place) {
        if (chance.nextInt(60) == 0) {
            return from(Integer.MIN_VALUE, Integer.MAX_VALUE, Integer.MAX_VALUE - 3, -100, 1000, 65536, -1, 7);
        }
        switch (name + place) {
            case "person0": return within(0, 7);
            case "person1": return within(0, 10);
            case "person2": case "thanks1":
                return from(within(0, 30), within(0, 30), within(0, 60), within(0, 120), 1000, within(985, 999));
            case "thanks0": case "of0": case "kill0": case "row0": case "was0": case "can0": case "act0": case "taken0":
            case "winter1": return within(0, 6) % 7;
            case "round0": return from(within(0, 5), within(-1, 6));
            case "row1": case "trace0": return within(-1, 4);
            case "book0": return from(within(0, 5), within(-1, 6));
            case "book1": return oracle.a.souls.isEmpty() ? 0
                : from(oracle.a.souls.get(chance.nextInt(oracle.a.souls.size())).thanks, within(0, 1000));
            case "was1": case "can1": case "gone0": case "worst1": case "odds1": case "mean1": return within(0, 2) % 3;
            case "of1": return from(within(0, 9), within(0, 7), within(10, 110));
            case "soldier0": return within(0, 1);
            case "soldier1": return from(within(0, 60), within(0, 999), within(90, 130), 999, 1000, within(0, 5));
            case "feed0": return within(0, 128);
            case "told0": return within(0, 16);
            case "pass0": return from(within(0, 4), within(0, 61), 1, 2);
            case "on0": case "worst0": case "whose0": case "odds0": case "mean0": return within(-1, 61);
            case "on1": return from(within(0, 3), within(9, 26));
            case "enough0": case "bears0": return within(0, 21);
            case "see0": return from(oracle.a.health, oracle.a.copy().days(1).health, within(-1, 80), within(0, 1000));
            case "see1": return within(-1, 21);
            case "winter0": return from(0, within(-1, 4), 2, 3, 0);
            case "judge0": case "item0": case "read0": case "tape0": case "shift0": case "shift2": return within(0, 6);
            case "tape1": return from(1, within(-1, 5));
            case "tape2": return from(within(0, 9), within(-1, 61));
            case "item1": case "read1": case "shift1": case "shift3": case "shift4": case "judge1":
                return from(within(-1, 4), within(0, 10));
            case "act1": return within(0, 11) % 4;
            case "act2": return from(within(-9, 9), chance.nextInt());
            case "row2": return within(0, 10);
            default: return within(-1, 9) / from(1, 1, 2);
        }
    }

    private long ask(String name, Object... arguments) throws Exception {
        if (wrong || calls >= CALLS) {
            return 0;
        }
        calls++;
        Object due = ORACLE.get(name).invoke(oracle, arguments);
        Object got = PROGRAM.get(name).invoke(program, arguments);
        told.append(name).append(Arrays.toString(arguments)).append(" = ").append(got).append('\n');
        if (!got.equals(due)) {
            wrong = true;
            told.append("    due is ").append(due).append('\n');
        }
        return ((Number) got).longValue();
    }

    private void call(String name) throws Exception {
        Class<?>[] types = PROGRAM.get(name).getParameterTypes();
        Object[] arguments = new Object[types.length];
        for (int i = 0; i < types.length; i++) {
            if (types[i] == boolean.class) {
                arguments[i] = chance.nextInt(3) == 0;
            } else if (types[i] == long.class) {
                arguments[i] = chance.nextInt(3) == 0 ? chance.nextLong() : (long) argument("thanks", 1);
            } else {
                arguments[i] = argument(name, i);
            }
        }
        ask(name, arguments);
    }

    private String expression(int depth) {
        int way = chance.nextInt(12);
        if (way < 2 && depth < 5) {
            return "!" + (chance.nextBoolean() ? test() : "(" + expression(depth + 2) + ")");
        }
        if (way < 4 && depth < 5) {
            return "(" + expression(depth + 1) + ")";
        }
        if (way < 6) {
            return expression(depth + 1) + (chance.nextBoolean() ? "|" : "&") + test();
        }
        return test();
    }

    private String test() {
        char letter = "pkvtsd".charAt(chance.nextInt(6));
        return "" + letter + "<=>".charAt(chance.nextInt(3)) + within(0, letter == 's' || letter == 't' ? 14 : 9);
    }

    private String landText() {
        StringBuilder land = new StringBuilder();
        int clauses = from(1, 2, 3, 4, 5, 11);
        for (int i = 0; i < clauses; i++) {
            land.append(i > 0 ? ";" : "");
            switch (chance.nextInt(clauses == 11 ? 3 : 7)) {
                case 0: land.append("cold ").append(from(within(0, 12), within(0, 99))); break;
                case 1: land.append("pocket ").append(within(0, 99)); break;
                case 2: land.append("stink ").append(from(within(0, 5), within(0, 99))); break;
                case 3: case 4: land.append("open ").append(within(0, 99)).append(' ').append(expression(0)); break;
                default: land.append("shut ").append(within(0, 99)).append(' ').append(expression(0)); break;
            }
        }
        if (chance.nextInt(3) == 0) {
            int at = chance.nextInt(land.length());
            String signs = " ;!()|&<=>09pkvtsdohcx";
            switch (chance.nextInt(3)) {
                case 0: land.setLength(at); break;
                case 1: land.setCharAt(at, signs.charAt(chance.nextInt(signs.length()))); break;
                default: land.insert(at, signs.charAt(chance.nextInt(signs.length()))); break;
            }
        }
        return land.toString();
    }

    /** People with so little THANKS, and so much HEALTH, that it can go either way. */
    private void settle() throws Exception {
        int most = from(6, 6, 6, within(0, 6));
        for (int i = 0; i < most; i++) {
            ask("person", within(0, 6), within(0, 9), from(0, within(0, 12), within(0, 40)));
        }
        for (int i = from(6, 5, within(0, 6)); i > 0; i--) {
            ask("round", within(0, 5));
        }
        hover();
    }

    private void hover() throws Exception {
        ask("soldier", 0, from(within(1, 40), within(1, 200)));
        ask("soldier", 1, from(within(0, 40), within(90, 110), within(0, 300)));
        for (int i = 0; i < oracle.a.souls.size(); i++) {
            ask("thanks", i, from(0, within(0, 20), within(0, 45)));
            ask("kill", i, chance.nextInt(6) == 0);
        }
    }

    /** What would be SEEN, were a number another one. */
    private void look() throws Exception {
        if (chance.nextBoolean()) {
            ask("see", -1, 0);
        }
        if (oracle.a.souls.isEmpty()) {
            return;
        }
        int person = chance.nextInt(oracle.a.souls.size());
        boolean asV = chance.nextBoolean();
        int number = within(0, asV ? 9 : 40);
        for (int rows = within(1, 2); rows > 0; rows--) {
            int n = within(0, 20);
            Oracle.All other = oracle.a.copy();
            if (asV) {
                other.souls.get(person).v = number;
            } else {
                other.souls.get(person).thanks = number;
            }
            ask("see", other.days(n).health, n);
        }
        ask(asV ? "can" : "was", person, 0);
        ask(asV ? "can" : "was", person, 1);
    }

    private void layTapes() throws Exception {
        int from = within(0, 3);
        int row = within(0, 5);
        ask("tape", row, 1, from(8, within(0, 10)));
        for (int i = 0; i < oracle.a.souls.size(); i++) {
            ask("item", row, from + i, (long) oracle.a.souls.get(i).thanks + from(0, 0, 0, 65536, chance.nextInt(12) / 11));
        }
        ask("judge", row, from);
        ask("judge", row, within(-1, 9));
        ask("tape", within(0, 5), from(1, within(0, 4)), within(0, 12));
        for (int i = 0; i < 4; i++) {
            ask("shift", from(row, within(0, 5)), within(0, 6), from(row, within(0, 5)), within(0, 6), within(0, 5));
            ask("item", within(0, 5), within(0, 9), chance.nextLong() >> from(0, 30, 50));
            ask("read", from(row, within(0, 5)), within(0, 9));
        }
    }

    private void tellByHand() throws Exception {
        for (int i = within(0, 11); i > 0; i--) {
            ask("winter", from(0, 0, within(0, 3)), within(0, 5));
        }
        ask("gone", 0);
        ask("gone", 1);
        for (int i = within(0, 9); i > 0 && !oracle.a.souls.isEmpty(); i--) {
            int person = chance.nextInt(oracle.a.souls.size());
            ask("book", person, oracle.a.souls.get(person).thanks + chance.nextInt(8) / 7);
        }
        ask("looked");
        ask("winter", from(-1, 0), 0);
        ask("book", from(-1, 0), 0);
    }

    private void run() throws Exception {
        if (chance.nextInt(5) > 0) {
            settle();
        }
        while (calls < CALLS && !wrong) {
            if (chance.nextInt(25) == 0) {
                for (char sign : landText().toCharArray()) {
                    ask("feed", (int) sign);
                }
                ask("land");
            } else if (chance.nextInt(20) == 0) {
                hover();
            } else if (chance.nextInt(12) == 0) {
                look();
            } else if (chance.nextInt(30) == 0) {
                layTapes();
            } else if (chance.nextInt(40) == 0) {
                tellByHand();
            } else if (chance.nextInt(8) == 0) {
                ask("of", within(0, 5), within(5, 7));
                ask("on", within(0, 40), within(0, 2));
            } else {
                call(NAMES.get(chance.nextInt(NAMES.size())));
            }
        }
    }

    public static void main(String[] args) throws Exception {
        for (Method method : SevenUnwashed.class.getDeclaredMethods()) {
            if (java.lang.reflect.Modifier.isPublic(method.getModifiers())) {
                PROGRAM.put(method.getName(), method);
                ORACLE.put(method.getName(), Oracle.class.getDeclaredMethod(method.getName(), method.getParameterTypes()));
                NAMES.add(method.getName());
            }
        }
        NAMES.sort(null);
        NAMES.addAll(Arrays.asList(OFTEN.split(" ")));
        int runs = args.length > 0 ? Integer.parseInt(args[0]) : 300;
        int wrongs = 0;
        for (int seed = 1; seed <= runs && wrongs < 3; seed++) {
            FuzzTest fuzz = new FuzzTest(seed);
            fuzz.run();
            if (fuzz.wrong) {
                wrongs++;
                System.out.println("run " + seed + ":\n" + fuzz.told);
            }
        }
        System.out.println(wrongs == 0 ? runs + " runs of chance calls are as the oracle's" : "runs differ");
        if (wrongs != 0) {
            System.exit(1);
        }
    }
}
