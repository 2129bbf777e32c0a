/** For each promise of the document what it asks, reckoned by hand. */
public final class PromiseTest extends Due {
    private static void traced(String call, SevenUnwashed x, int... bodies) {
        due(call + " count(7)", x.count(7), bodies.length);
        for (int i = 0; i < bodies.length; i++) {
            due(call + " trace(" + i + ")", x.trace(i), bodies[i]);
        }
        due(call + " trace behind the last", x.trace(bodies.length), NONE);
    }

    private static void p01() {
        due("NONE", SevenUnwashed.NONE, -1);
        due("BAD", SevenUnwashed.BAD, -2);
        due("STATE", SevenUnwashed.STATE, -3);
        due("FULL", SevenUnwashed.FULL, -4);
        due("NO", SevenUnwashed.NO, Long.MIN_VALUE);
        SevenUnwashed x = new SevenUnwashed();
        for (int what = 0; what < 8; what++) {
            due("count(" + what + ")", x.count(what), 0);
        }
        due("DAY", x.told(0), 0);
        due("HEALTH", x.told(1), 50);
        due("SMELL", x.told(2), 0);
        due("COLD", x.told(3), 5);
        due("POCKET", x.told(4), 10);
        due("STINK", x.told(5), 1);
        due("undo()", x.undo(), STATE);
        for (int tape = 0; tape < 6; tape++) {
            due("item on an empty tape", x.item(tape, 0, 1), NOTHING);
        }
        SevenUnwashed other = new SevenUnwashed();
        x.person(PERSON, 0, 0);
        land(x, "cold 9");
        x.pass(2);
        due("another object's PEOPLE", other.count(0), 0);
        due("another object's COLD", other.told(3), 5);
        due("another object's HEALTH", other.told(1), 50);
    }

    private static void p02() {
        SevenUnwashed x = new SevenUnwashed();
        all("person, no kind", NONE, x.person(-1, 0, 0), x.person(7, 0, 0), x.person(MAX, 10, 1000), x.person(MIN, -1, 0));
        all("person, BAD", BAD, x.person(0, -1, 0), x.person(0, 10, 0), x.person(6, 0, -1), x.person(6, 0, 1000));
        due("count(0)", x.count(0), 0);
        for (int i = 0; i < 6; i++) {
            due("person " + i, x.person(i + 1, i == 0 ? 9 : i, i == 0 ? 999 : i), i);
        }
        due("person, FULL", x.person(0, 0, 0), FULL);
        due("person, NONE ahead of FULL", x.person(7, 0, 0), NONE);
        due("person, BAD ahead of FULL", x.person(0, 0, 1000), BAD);
        due("v", x.of(0, 1), 9);
        due("THANKS", x.of(0, 2), 999);
        due("KIND of the last", x.of(5, 0), 6);
        all("GOT, DEAD at first", 0, x.of(5, 3), x.of(5, 4));
        x = new SevenUnwashed();
        x.image();
        x.person(TOLD, 0, 9);
        x.row(0, 0, 9);
        x.kill(0, true);
        x.round(0);
        x.pass(1);
        x.undo();
        x.person(TOLD, 0, 9);
        all("GOT, DEAD of one who comes where another was", 0, x.of(0, 3), x.of(0, 4));
        due("its ROW", x.of(0, 7), 0);
    }

    private static void p03() {
        SevenUnwashed x = with("", PERSON, 6, 39, DEVOUT, 5, 39, FEARFUL, 3, 39, GREEDY, 1, 39, FALSE, 1, 39, HIRED, 8, 39);
        int[] numbers = {6, 5, 3, 1, 1, 8};
        int[] prays = {3, 7, 6, 3, 0, 3};
        int[] for25 = {25, 25, 12, 26, 25, 12};
        int[] for99 = {99, 99, 49, 100, 99, 49};
        for (int p = 0; p < 6; p++) {
            due("KIND", x.of(p, 0), p);
            due("v", x.of(p, 1), numbers[p]);
            due("THANKS", x.of(p, 2), 39);
            due("GOT", x.of(p, 3), 0);
            due("DEAD", x.of(p, 4), 0);
            due("WELCOME", x.of(p, 5), 39);
            due("LETS", x.of(p, 6), 1);
            due("PRAYS " + p, x.of(p, 7), prays[p]);
            due("for no gold " + p, x.of(p, 10), p == 3 ? 1 : 0);
            due("for 25 " + p, x.of(p, 35), for25[p]);
            due("for 99 " + p, x.of(p, 109), for99[p]);
            all("of, NONE", -10001, x.of(p, 8), x.of(p, 9), x.of(p, 110), x.of(p, -1), x.of(p, MIN), x.of(p, MAX));
        }
        all("of nobody", -10001, x.of(6, 0), x.of(-1, 0), x.of(MAX, 5), x.of(MIN, 10));
        x.thanks(5, 0);
        due("HIRED without THANKS", x.of(5, 7), 0);
        x.thanks(5, 1);
        due("HIRED with one", x.of(5, 7), 3);
        x.soldier(1, 100);
        due("WELCOME at SMELL 100", x.of(2, 5), 29);
        due("FEARFUL at SMELL 100", x.of(2, 6), 1);
        x.soldier(1, 101);
        due("WELCOME at SMELL 101", x.of(2, 5), 29);
        due("FEARFUL at SMELL 101", x.of(2, 6), 0);
        due("FEARFUL PRAYS at SMELL 101", x.of(2, 7), 3);
        x.thanks(5, 39);
        all("others at SMELL 101", 1, x.of(0, 6), x.of(1, 6), x.of(3, 6), x.of(4, 6), x.of(5, 6));
        x.soldier(1, 399);
        due("WELCOME 0", x.of(0, 5), 0);
        due("LETS at WELCOME 0", x.of(0, 6), 1);
        x.soldier(1, 400);
        due("WELCOME -1", x.of(0, 5), -1);
        all("nobody LETS at WELCOME -1", 0, x.of(0, 6), x.of(1, 6), x.of(2, 6), x.of(3, 6), x.of(4, 6), x.of(5, 6));
        due("PRAYS though he stays outside", x.of(0, 7), 3);
        x.soldier(1, 0);
        x.kill(0, true);
        due("DEAD", x.of(0, 4), 1);
        due("WELCOME of a DEAD one", x.of(0, 5), 39);
        all("LETS and PRAYS of a DEAD one", 0, x.of(0, 6), x.of(0, 7));
        x = with("cold 0", FALSE, 0, 100, FALSE, 1, 100, FALSE, 9, 100, TOLD, 4, 100);
        for (int part = 0; part < 4; part++) {
            x.row(3, part, 2 * part + 1);
        }
        for (int day = 0; day < 13; day++) {
            int fifth = (100 - day) / 5;
            due("FALSE, v 0, DAY " + day, x.of(0, 7), day % 2 == 0 ? 0 : fifth);
            due("FALSE, v 1, DAY " + day, x.of(1, 7), day % 3 == 0 ? 0 : fifth);
            due("FALSE, v 9, DAY " + day, x.of(2, 7), day % 11 == 0 ? 0 : fifth);
            due("TOLD, DAY " + day, x.of(3, 7), (100 - day) / 10 + 2 * (day % 4) + 1);
            x.pass(1);
        }
        due("TOLD for 7", x.of(3, 17), 11);
    }

    private static void p04() {
        SevenUnwashed x = with("", PERSON, 0, 7);
        all("thanks, NONE", NONE, x.thanks(1, 0), x.thanks(-1, 0), x.thanks(6, 1000), x.thanks(MAX, 0), x.thanks(MIN, 0));
        all("thanks, BAD", BAD, x.thanks(0, -1), x.thanks(0, 1000), x.thanks(0, MIN));
        due("thanks(0, 999)", x.thanks(0, 999), 7);
        due("thanks(0, 0)", x.thanks(0, 0), 999);
        due("THANKS", x.of(0, 2), 0);
    }

    private static void p05() {
        SevenUnwashed x = with("", PERSON, 0, 7, PERSON, 0, 7);
        all("kill, NONE", NONE, x.kill(2, true), x.kill(-1, true), x.kill(MAX, false), x.kill(MIN, true));
        due("kill(1, true)", x.kill(1, true), 0);
        due("kill(1, true) again", x.kill(1, true), 1);
        due("the other", x.of(0, 4), 0);
        due("kill(1, false)", x.kill(1, false), 1);
        due("DEAD", x.of(1, 4), 0);
        due("kill(1, false) again", x.kill(1, false), 0);
    }

    private static void p06() {
        SevenUnwashed x = with("", GREEDY, 0, 0, TOLD, 0, 0, TOLD, 0, 0);
        all("row, NONE", NONE, x.row(3, 0, 0), x.row(-1, 0, 0), x.row(1, 4, 0), x.row(1, -1, 0), x.row(0, 4, 10),
            x.row(1, MAX, 0), x.row(1, MIN, 0));
        all("row, BAD", BAD, x.row(1, 0, -1), x.row(1, 0, 10), x.row(0, 3, 10));
        due("row, STATE", x.row(0, 0, 5), STATE);
        due("row(1, 0, 9)", x.row(1, 0, 9), 0);
        due("row(1, 3, 4)", x.row(1, 3, 4), 0);
        due("row(1, 0, 2)", x.row(1, 0, 2), 9);
        due("row(1, 3, 0)", x.row(1, 3, 0), 4);
        due("another's ROW", x.row(2, 0, 1), 0);
        due("PRAYS by it", x.of(1, 7), 2);
    }

    private static void p07() {
        SevenUnwashed x = new SevenUnwashed();
        all("soldier, NONE", NONE, x.soldier(2, 0), x.soldier(-1, 1000), x.soldier(MAX, 0), x.soldier(MIN, 0));
        all("soldier, BAD", BAD, x.soldier(0, -1), x.soldier(0, 1000), x.soldier(1, -1), x.soldier(1, 1000));
        due("soldier(0, 999)", x.soldier(0, 999), 50);
        due("soldier(1, 999)", x.soldier(1, 999), 0);
        due("soldier(0, 0)", x.soldier(0, 0), 999);
        due("soldier(1, 3)", x.soldier(1, 3), 999);
        due("HEALTH", x.told(1), 0);
        due("SMELL", x.told(2), 3);
    }

    private static void p08() {
        SevenUnwashed x = with("", PERSON, 0, 0, PERSON, 0, 0);
        all("round, NONE", NONE, x.round(2), x.round(-2), x.round(6), x.round(MAX), x.round(MIN));
        int[] who = {1, 0, 1, 1, 0, 1};
        for (int i = 0; i < 6; i++) {
            due("round", x.round(who[i]), i + 1);
        }
        due("round, FULL", x.round(0), FULL);
        due("round, NONE ahead of FULL", x.round(2), NONE);
        for (int i = 0; i < 6; i++) {
            due("place " + i, x.told(10 + i), who[i]);
        }
        due("round(-1)", x.round(-1), 0);
        due("empty", x.count(2), 0);
        due("place 0", x.told(10), NONE);
        due("round(0)", x.round(0), 1);
    }

    private static void p09() {
        SevenUnwashed x = new SevenUnwashed();
        all("feed, BAD", BAD, x.feed(-1), x.feed(128), x.feed(MAX), x.feed(MIN));
        for (int i = 1; i <= 100; i++) {
            due("feed", x.feed(i == 1 ? 0 : i == 2 ? 127 : 'p'), i);
        }
        due("feed, FULL", x.feed('p'), FULL);
        due("feed, BAD ahead of FULL", x.feed(128), BAD);
        due("count(6)", x.count(6), 100);
        due("no LAND begins with 0", x.land(), -10);
        due("count(6) then", x.count(6), 0);
    }

    private static void fault(String text, int fault) {
        SevenUnwashed x = with("cold 77");
        due("\"" + text + "\"", land(x, text), -10 - fault);
        due("\"" + text + "\" leaves no TEXT", x.count(6), 0);
        due("\"" + text + "\" leaves the LAND", x.told(3), 77);
        due("\"" + text + "\" makes none", x.count(1), 1);
    }

    private static void stands(String text) {
        due("\"" + text + "\"", land(new SevenUnwashed(), text), 0);
    }

    private static void p10() {
        String[] words = {"open", "shut", "cold", "pocket", "stink"};
        for (String word : words) {
            for (int i = 0; i <= word.length(); i++) {
                fault(word.substring(0, i), i);
                fault(word.substring(0, i) + "~", i);
            }
            fault(word + " ", word.length() + 1);
            fault(word + "  1", word.length() + 1);
            fault(word + " 123", word.length() + 3);
            fault("stink 1;" + word + "1", 8 + word.length());
        }
        fault("", 0);
        fault(" cold 1", 0);
        fault("stop", 2);
        fault("shink", 2);
        fault("cold 1;", 7);
        fault("cold 1;;", 7);
        fault("cold 1 ", 6);
        fault("cold 1 p=1", 6);
        fault("cold -1", 5);
        fault("open 1", 6);
        fault("open 1;", 6);
        fault("open 1 ", 7);
        fault("open 12 x=1", 8);
        fault("open 1 p", 8);
        fault("open 1 p ", 8);
        fault("open 1 p=", 9);
        fault("open 1 p==", 9);
        fault("open 1 p=1 ", 10);
        fault("open 1 p=100", 11);
        fault("open 1 p=1)", 10);
        fault("open 1 p=1&", 11);
        fault("open 1 p=1|", 11);
        fault("open 1 p=1&&p=1", 11);
        fault("open 1 p=1&|p=1", 11);
        fault("open 1 (p=1", 11);
        fault("open 1 ()", 8);
        fault("open 1 (p=1;", 11);
        fault("open 1 (p=1))", 12);
        fault("open 1 !", 8);
        fault("open 1 p=1!p=1", 10);
        fault("open 1 (p=1)p=1", 12);
        fault("open 1 P=1", 7);
        fault("open 1 !!!!!p=1", 11);
        fault("open 1 (((((p=1)))))", 11);
        fault("open 1 !(!(!p=1))", 11);
        fault("open 1 !(!(p=1&!p=2))", 15);
        fault("open 1 !(!(p=1|(p=2)))", 15);
        fault("open 1 !!!!(", 11);
        for (char letter : "pkvtsd".toCharArray()) {
            for (char sign : "<=>".toCharArray()) {
                stands("open 1 " + letter + sign + "1");
                stands("shut 01 " + letter + sign + "00");
            }
        }
        stands("open 1 ((((p=1))))");
        stands("open 1 !!!!p=1");
        stands("open 1 !(!(p=1|p=2))");
        stands("open 1 ((p=1)|!p=2)&(((p=3)))|!!!(p=4)");
        String ten = "cold 1;cold 2;cold 3;cold 4;cold 5;cold 6;cold 7;cold 8;cold 9;cold 10";
        stands(ten);
        fault(ten + ";", 70);
        fault(ten + ";cold 1", 70);
        fault(ten + "0", 70);
        StringBuilder full = new StringBuilder("open 1 p=1");
        while (full.length() < 98) {
            full.append("|p=1");
        }
        stands(full.toString());
        stands(full + "0");
        fault(full + "&", 99);
        fault(full + "0&", 100);
        fault(full + "|p", 100);
        SevenUnwashed x = new SevenUnwashed();
        for (int i = 0; i < 6; i++) {
            due("land", land(x, "cold " + i), i);
            due("the newest holds", x.told(3), i);
        }
        x.feed('c');
        due("land, FULL", x.land(), FULL);
        due("THE TEXT stays", x.count(6), 1);
        due("LANDS", x.count(1), 6);
        due("COLD stays", x.told(3), 5);
        p10holds();
    }

    /** For whom an E holds: who LETS him in, when all are shut out and it opens. */
    private static void holds(String e, int bits) {
        SevenUnwashed x = with("shut 50 p>0|p=0;open 50 " + e,
            PERSON, 0, 0, DEVOUT, 2, 9, FEARFUL, 4, 10, GREEDY, 6, 19, FALSE, 8, 20, HIRED, 9, 21);
        x.soldier(1, 9);
        int[] thanks = {0, 9, 10, 19, 20, 21};
        for (int p = 0; p < 6; p++) {
            due(e + " WELCOME of " + p, x.of(p, 5), (((bits >> p) & 1) != 0 ? 0 : -50) + thanks[p]);
        }
        due(e, x.told(6), bits);
    }

    private static void p10again() {
        SevenUnwashed x = with("", PERSON, 0, 0);
        due("a LAND that breaks off", land(x, "pocket 3;stink 4;cold 7;open 5 !p=0&!p=1;x"), -51);
        due("a LAND in its place", land(x, "open 1 p=0"), 0);
        due("has its own clauses alone", x.of(0, 5), 1);
        due("COLD without", x.told(3), 5);
        due("POCKET without", x.told(4), 10);
        due("STINK without", x.told(5), 1);
        x = with("open 1 d=0;open 2 d=1;open 3 d=2;open 4 d>8;open 5 d<1;cold 0;stink 0", PERSON, 0, 0);
        int[] welcome = {6, 2, 3, 0, 0, 0, 0, 0, 0, 4};
        for (int day = 0; day < 25; day++) {
            due("WELCOME on DAY " + day, x.of(0, 5), welcome[day % 10]);
            x.pass(1);
        }
        x = with("open 1 s=0;open 2 s<1;open 4 s=1;open 8 s>0", PERSON, 0, 1);
        int[] smell = {0, 9, 10, 19, 20};
        int[] doors = {3, 3, 12 - 1, 12 - 1, 8 - 2};
        for (int i = 0; i < 5; i++) {
            x.soldier(1, smell[i]);
            due("WELCOME at SMELL " + smell[i], x.of(0, 5), 1 + doors[i]);
        }
    }

    private static void p10holds() {
        p10again();
        holds("p<2", 3);
        holds("p=2", 4);
        holds("p>2", 56);
        holds("k<1", 1);
        holds("k=5", 32);
        holds("k>3", 48);
        holds("v<4", 3);
        holds("v=8", 16);
        holds("v>6", 48);
        holds("t<1", 3);
        holds("t=1", 12);
        holds("t>1", 48);
        holds("s=0", 63);
        holds("s>0", 0);
        holds("s<1", 63);
        holds("d=0", 63);
        holds("d<0", 0);
        holds("d>0", 0);
        holds("p>99", 0);
        holds("p<99", 63);
        holds("!p=1", 61);
        holds("!!p=1", 2);
        holds("p=1|p=2&p=3", 2);
        holds("p=2&p=3|p=1", 2);
        holds("(p=1|p=2)&p=2", 4);
        holds("!p=1&p<3", 5);
        holds("!(p=1|p<1)", 60);
        holds("p=0|p=1|p=5", 35);
        holds("p>0&p<4&v>2", 12);
        holds("!(!(p=1|p=2))", 6);
        SevenUnwashed x = with("open 9 d=1|d=2;shut 7 s=1;stink 3;cold 0", PERSON, 0, 100);
        due("DAY 0", x.of(0, 5), 100);
        x.pass(1);
        due("DAY 1", x.of(0, 5), 99 + 9);
        x.pass(3);
        due("DAY 4, SMELL 12", x.of(0, 5), 96 - 7 - 1);
        x.pass(7);
        due("DAY 11 is as DAY 1", x.of(0, 5), 89 + 9 - 3);
        x = with("open 99 t=99;open 1 t>98;shut 98 p=0;shut 99 s=99", PERSON, 0, 999);
        due("WELCOME of 999", x.of(0, 5), 999 + 99 + 1 - 98);
        x.soldier(1, 999);
        due("WELCOME of 999 at SMELL 999", x.of(0, 5), 999 + 99 + 1 - 98 - 99 - 99);
        x = with("cold 1;pocket 2;stink 3;cold 4;pocket 05;stink 60");
        due("the last COLD", x.told(3), 4);
        due("the last POCKET", x.told(4), 5);
        due("the last STINK", x.told(5), 60);
        land(x, "open 1 p=0");
        due("COLD without", x.told(3), 5);
        due("POCKET without", x.told(4), 10);
        due("STINK without", x.told(5), 1);
    }

    private static void p11() {
        SevenUnwashed x = with("cold 3;pocket 4;stink 6;shut 99 p=1", PERSON, 0, 20, PERSON, 0, 20, DEVOUT, 0, 20);
        x.round(2);
        x.round(0);
        x.pass(1);
        due("DAY", x.told(0), 1);
        due("HEALTH", x.told(1), 50 + 2 + 2 + 4 - 1);
        due("SMELL", x.told(2), 6);
        due("COLD", x.told(3), 3);
        due("POCKET", x.told(4), 4);
        due("STINK", x.told(5), 6);
        due("who LETS", x.told(6), 5);
        due("what all PRAY", x.told(7), 1 + 1 + 4);
        due("place 0", x.told(10), 2);
        due("place 1", x.told(11), 0);
        all("told, NONE", NONE, x.told(8), x.told(9), x.told(12), x.told(15), x.told(16), x.told(-1), x.told(MAX), x.told(MIN));
        x.kill(2, true);
        due("who LETS, less a DEAD one", x.told(6), 1);
        due("what all PRAY, less a DEAD one", x.told(7), 2);
    }

    private static void p12() {
        SevenUnwashed x = with("", PERSON, 0, 20);
        x.round(0);
        all("pass, BAD", BAD, x.pass(-1), x.pass(61), x.pass(MAX), x.pass(MIN));
        due("pass(0)", x.pass(0), 50);
        due("day 1", x.pass(1), 48);
        due("THANKS", x.of(0, 2), 29);
        due("GOT", x.of(0, 3), 10);
        due("SMELL", x.told(2), 1);
        due("two more", x.pass(2), 45);
        due("THANKS", x.of(0, 2), 47);
        due("GOT", x.of(0, 3), 30);
        due("DAY", x.told(0), 3);
        x = with("cold 4;pocket 9;stink 40", GREEDY, 5, 0, HIRED, 5, 1, FEARFUL, 5, 30, DEVOUT, 0, 998);
        x.round(0);
        x.round(3);
        x.round(1);
        x.kill(2, true);
        due("day 1: HARM is 1", x.pass(1), 50 + 3 + 199 - 1);
        due("given with v more", x.of(0, 2), 13);
        due("HIRED loses one", x.of(1, 2), 0);
        due("a DEAD one's THANKS go, too", x.of(2, 2), 29);
        due("DEVOUT", x.of(3, 2), 997);
        due("day 2: HARM is 2, as HIRED keeps him out", x.pass(1), 251 + 1 + 199 - 2);
        due("DEVOUT is given 9, up to 999", x.of(3, 2), 998);
        due("day 3", x.pass(1), 449 + 1 + 199 - 2);
        due("HIRED is given 9", x.of(1, 2), 3);
        due("GOT", x.of(0, 3) * 100 + x.of(1, 3) * 10 + x.of(3, 3), 999);
        p12edges();
    }

    private static void p12edges() {
        SevenUnwashed x = with("cold 0;pocket 99;stink 99", DEVOUT, 0, 950);
        x.round(0);
        due("HEALTH is 999 at most", x.pass(60), 999);
        due("THANKS are 999 at most, one less each DAY", x.of(0, 2), 998);
        due("SMELL is 999 at most", x.told(2), 999);
        due("GOT", x.of(0, 3), 5940);
        for (int i = 0; i < 15; i++) {
            x.pass(60);
        }
        due("GOT", x.of(0, 3), 95040);
        x.pass(50);
        due("GOT", x.of(0, 3), 99990);
        x.pass(1);
        due("GOT is 99999 at most", x.of(0, 3), 99999);
        x = with("cold 9", PERSON, 0, 40, PERSON, 0, 0);
        x.soldier(0, 5);
        x.round(1);
        due("PRAYERS and HARM go together", x.pass(1), 5 + 4 - 7);
        x.soldier(0, 999);
        x.thanks(0, 200);
        due("and are cut at 999 only then", x.pass(1), 999);
        x.soldier(0, 997);
        x.thanks(0, 50);
        due("so too below it", x.pass(1), 997 + 5 + 1 - 7);
        x.soldier(0, 3);
        x.thanks(0, 0);
        due("HEALTH is 0 at least", x.pass(60), 0);
        due("DAY stands when he is gone", x.told(0), 4);
        due("pass, gone", x.pass(0), STATE);
        due("BAD ahead of STATE", x.pass(61), BAD);
        x.soldier(0, 1);
        due("not gone any more", x.pass(0), 1);
        x = with("cold 0", PERSON, 0, 5, PERSON, 0, 5);
        x.round(0);
        x.kill(0, true);
        x.pass(1);
        due("nothing is given to a DEAD one", x.of(0, 3), 0);
        due("nor to another for it", x.of(1, 3), 0);
        due("its THANKS", x.of(0, 2), 4);
        x.round(-1);
        x.pass(1);
        all("nothing is given without a ROUND", 0, x.of(0, 3), x.of(1, 3));
        x.pass(9);
        due("THANKS are 0 at least", x.of(1, 2), 0);
        x = with("cold 2", PERSON, 0, 0, PERSON, 0, 0, PERSON, 0, 0);
        due("HARM is 0 at least", x.pass(2), 50);
        x.soldier(1, 10);
        due("nobody LETS him in", x.pass(1), 48);
        x = with("pocket 20;cold 0", FEARFUL, 3, 0, HIRED, 0, 0, FALSE, 0, 0, TOLD, 6, 0);
        x.row(3, 1, 7);
        x.round(0);
        x.round(1);
        x.round(2);
        x.round(3);
        due("four DAYS", x.pass(4), 50 + 3 + (3 + 7) + (3 + 3) + (3 + 3 + 3));
        due("FEARFUL got the half", x.of(0, 2), 6);
        due("HIRED likewise", x.of(1, 2), 7);
        due("FALSE all", x.of(2, 2), 18);
        due("TOLD v more", x.of(3, 2), 25);
        x = with("cold 0");
        for (int i = 0; i < 166; i++) {
            x.pass(60);
        }
        due("DAY", x.told(0), 9960);
        due("DAY and n above 9999", x.pass(40), STATE);
        due("DAY and n are 9999", x.pass(39), 50);
        due("pass(0) then", x.pass(0), 50);
        due("pass(1) then", x.pass(1), STATE);
        due("ON goes beyond", x.on(60, 1), 999);
        due("DIES likewise", x.dies(), NEVER);
    }

    private static void p13() {
        SevenUnwashed x = with("shut 99 p=1;pocket 20", PERSON, 0, 20, FEARFUL, 0, 98);
        x.round(1);
        x.round(0);
        all("on, NONE", NONE, x.on(0, -1), x.on(0, 3), x.on(0, 9), x.on(0, 12), x.on(0, 19), x.on(0, 22), x.on(0, 26),
            x.on(61, 3), x.on(0, MAX), x.on(0, MIN));
        all("on, BAD", BAD, x.on(-1, 0), x.on(61, 0), x.on(MAX, 10), x.on(MIN, 21));
        due("HEALTH on 0", x.on(0, 0), 50);
        due("HEALTH on 1", x.on(1, 0), 50 + 2 + 9 - 4);
        due("HEALTH on 2", x.on(2, 0), 57 + 1 + 10 - 3);
        due("SMELL on 2", x.on(2, 1), 2);
        due("who on 0", x.on(0, 2), 1);
        due("who on 1", x.on(1, 2), 3);
        due("THANKS of 0 on 2", x.on(2, 10), 38);
        due("THANKS of 1 on 2", x.on(2, 11), 106);
        due("GOT of 0 on 2", x.on(2, 20), 20);
        due("GOT of 1 on 3", x.on(3, 21), 40);
        due("nothing is changed", x.told(0) + x.told(2) + x.of(1, 3), 0);
        due("HEALTH is as before", x.told(1), 50);
        SevenUnwashed y = with("cold 0", PERSON, 0, 0, PERSON, 0, 0, PERSON, 0, 0, PERSON, 0, 0, PERSON, 0, 0, TOLD, 0, 0);
        y.row(5, 1, 7);
        y.row(5, 3, 9);
        due("the ROW of the last one", y.on(4, 0), 66);
        x.soldier(0, 0);
        due("gone: no DAYS", x.on(60, 10), 20);
        due("gone: SMELL", x.on(60, 1), 0);
    }

    private static void p14() {
        SevenUnwashed x = new SevenUnwashed();
        due("dies()", x.dies(), 10);
        x.soldier(0, 51);
        due("dies()", x.dies(), 11);
        x.soldier(0, 495);
        due("behind 99", x.dies(), 99);
        x.soldier(0, 496);
        due("behind 100", x.dies(), NEVER);
        x.soldier(0, 1);
        due("behind 1", x.dies(), 1);
        x.soldier(0, 0);
        due("gone", x.dies(), 0);
        land(x, "cold 0");
        x.soldier(0, 1);
        due("never", x.dies(), NEVER);
    }

    private static void p15() {
        SevenUnwashed x = with("", DEVOUT, 0, 0);
        x.round(0);
        all("worst, NONE", NONE, x.worst(0, 2), x.worst(0, -1), x.worst(61, 2), x.worst(0, MAX), x.worst(0, MIN));
        all("worst, BAD", BAD, x.worst(-1, 0), x.worst(61, 1), x.worst(MAX, 0), x.worst(MIN, 1));
        due("worst(0, 0)", x.worst(0, 0), 50);
        due("worst(0, 1)", x.worst(0, 1), 0);
        due("worst(2, 0)", x.worst(2, 0), 43);
        due("worst(2, 1)", x.worst(2, 1), 2);
        due("worst(60, 0)", x.worst(60, 0), 42);
        due("worst(60, 1)", x.worst(60, 1), 3);
        x = new SevenUnwashed();
        due("gone", x.worst(60, 0), 0);
        due("gone behind", x.worst(60, 1), 10);
        due("ahead of it", x.worst(9, 0), 5);
        land(x, "cold 0");
        due("always alike: the first", x.worst(60, 1), 0);
        x.soldier(0, 0);
        due("gone now", x.worst(60, 1), 0);
    }

    private static void p16() {
        SevenUnwashed x = new SevenUnwashed();
        due("nobody", x.aim(), NEVER);
        x = with("pocket 4", PERSON, 0, 0, DEVOUT, 0, 0, DEVOUT, 0, 0, HIRED, 0, 0);
        due("without a ROUND", x.aim(), 1);
        x.round(0);
        due("the first of two DEVOUT ones", x.aim(), 1);
        x.kill(1, true);
        due("a DEAD one gives no THANKS", x.aim(), 2);
        x.kill(2, true);
        due("the PERSON", x.aim(), 0);
        x.kill(0, true);
        due("HIRED: 3 each DAY", x.aim(), 3);
        x.kill(3, true);
        due("all alike: the first", x.aim(), 0);
        due("THE ROUND stays", x.count(2) * 10 + x.told(10), 10);
        due("GOT stays", x.of(0, 3), 0);
        x.soldier(0, 0);
        due("gone: the first", x.aim(), 0);
    }

    private static void p17() {
        SevenUnwashed x = new SevenUnwashed();
        due("no ROUND", x.swap(), NEVER);
        x = with("pocket 5", PERSON, 0, 0, DEVOUT, 0, 0);
        x.round(0);
        due("one place", x.swap(), NEVER);
        x.round(1);
        int first = x.on(40, 0);
        due("the DEVOUT one first", x.swap(), 1);
        due("THE ROUND stays", x.told(10) * 10 + x.told(11), 1);
        x.round(-1);
        x.round(1);
        x.round(0);
        due("then it is better", x.on(40, 0) > first ? 1 : 0, 1);
        due("and there is none", x.swap(), NEVER);
        x = with("pocket 40", PERSON, 0, 0, PERSON, 0, 0, PERSON, 0, 0);
        x.round(0);
        x.round(1);
        x.round(2);
        due("all alike", x.swap(), NEVER);
        x = dueLate(0, 200);
        due("who is DEAD should be last", x.swap(), 5);
        due("WELL as it is", x.on(40, 0), 519);
        due("WELL with 0 and 1", dueLate(1, 200).on(40, 0), 518);
        due("WELL with 0 and 4", dueLate(4, 200).on(40, 0), 538);
        due("WELL with 0 and 5", dueLate(5, 200).on(40, 0), 544);
        x.soldier(0, 661);
        due("WELL with 0 and 4, cut", dueLate(4, 661).on(40, 0), 999);
        due("WELL with 0 and 5, cut", dueLate(5, 661).on(40, 0), 999);
        due("of several the first", x.swap(), 4);
        x.soldier(0, 0);
        due("gone", x.swap(), NEVER);
        x = with("pocket 5", PERSON, 0, 0, DEVOUT, 0, 0);
        x.round(1);
        x.round(1);
        x.round(0);
        x.round(1);
        due("places above 0", x.swap(), 23);
    }

    /** Six places, at one of which stands one who is DEAD, at the others a DEVOUT one. */
    private static SevenUnwashed dueLate(int place, int health) {
        SevenUnwashed x = with("pocket 5", PERSON, 0, 0, DEVOUT, 0, 0, DEVOUT, 0, 0);
        x.kill(0, true);
        for (int i = 0; i < 6; i++) {
            x.round(i == place ? 0 : 1);
        }
        x.soldier(0, health);
        return x;
    }

    private static void p18() {
        SevenUnwashed x = with("", HIRED, 0, 0);
        x.round(0);
        all("enough, BAD", BAD, x.enough(0), x.enough(21), x.enough(-1), x.enough(MAX), x.enough(MIN));
        x.soldier(0, 8);
        due("HIRED needs 4", x.enough(2), 4);
        due("for one DAY none", x.enough(1), 0);
        x.soldier(0, 9);
        due("none is needed", x.enough(2), 0);
        x.soldier(0, 5);
        due("none is enough", x.enough(2), NEVER);
        x.soldier(0, 6);
        due("4 is just enough", x.enough(2), 4);
        due("POCKET stays", x.told(4), 10);
        x.soldier(0, 0);
        due("gone", x.enough(1), NEVER);
        x = with("pocket 99", PERSON, 0, 1);
        x.round(0);
        x.soldier(0, 5);
        due("40 is the most", x.enough(2), 40);
        x.thanks(0, 0);
        due("41 would be enough", x.enough(2), NEVER);
        x.soldier(0, 999);
        due("enough(20)", x.enough(20), 0);
    }

    private static void p19() {
        SevenUnwashed x = with("cold 30");
        all("bears, BAD", BAD, x.bears(0), x.bears(21), x.bears(-1), x.bears(MAX), x.bears(MIN));
        due("bears(3)", x.bears(3), 16);
        due("bears(1)", x.bears(1), 40);
        due("bears(20)", x.bears(20), 2);
        x.soldier(0, 121);
        due("40 is the most", x.bears(3), 40);
        x.soldier(0, 120);
        due("39", x.bears(3), 39);
        x.soldier(0, 1);
        due("0", x.bears(20), 0);
        x.soldier(0, 0);
        due("gone", x.bears(1), NEVER);
        due("COLD stays", x.told(3), 30);
        x = with("", PERSON, 0, 0, PERSON, 0, 0);
        due("who LETS counts", x.bears(5), 11);
    }

    private static void p20() {
        SevenUnwashed x = with("cold 14", PERSON, 0, 100, PERSON, 0, 0);
        x.soldier(0, 5);
        all("whose, BAD", BAD, x.whose(0), x.whose(61), x.whose(-1), x.whose(MAX), x.whose(MIN));
        due("whose(1)", x.whose(1), 1);
        x.soldier(0, 3);
        due("both hold", x.whose(1), 3);
        x.soldier(0, 20);
        due("nobody's", x.whose(1), 0);
        x.soldier(0, 2);
        due("gone as it is", x.whose(1), 0);
        x.soldier(0, 5);
        due("nobody is DEAD by it", x.of(0, 4) + x.of(1, 4), 0);
        x = with("cold 5", PERSON, 0, 0, HIRED, 0, 99, HIRED, 0, 99);
        x.kill(0, true);
        x.soldier(0, 4);
        due("with a DEAD one: both others", x.whose(60) == 6 ? 6 : x.whose(60), 6);
        x.soldier(0, 999);
        due("beyond need", x.whose(60), 0);
    }

    private static void p21() {
        SevenUnwashed x = new SevenUnwashed();
        all("see, BAD", BAD, x.see(-2, 0), x.see(1000, 0), x.see(0, -1), x.see(0, 21), x.see(MAX, 0), x.see(MIN, 0), x.see(0, MAX));
        for (int i = 1; i <= 5; i++) {
            due("see", x.see(i == 1 ? 0 : 999, i == 1 ? 20 : 0), i);
        }
        due("see, FULL", x.see(0, 0), FULL);
        due("see, BAD ahead of FULL", x.see(0, 21), BAD);
        due("see(-1, 99)", x.see(-1, 99), 0);
        due("SEEN", x.count(3), 0);
        due("see", x.see(5, 5), 1);
    }

    private static void p22() {
        SevenUnwashed x = with("", PERSON, 0, 77, PERSON, 0, 0);
        all("was, NONE", NONE, x.was(2, 0), x.was(-1, 0), x.was(0, 2), x.was(0, -1), x.was(MAX, 0), x.was(0, MIN));
        due("nothing SEEN: all", x.was(0, 0), 41);
        due("nothing SEEN: the least", x.was(0, 1), 0);
        x.kill(1, true);
        x.see(47, 1);
        due("was(0, 0)", x.was(0, 0), 10);
        due("was(0, 1)", x.was(0, 1), 10);
        x.see(50, 0);
        x.see(44, 2);
        due("11 .. 19 and 20, 21", x.was(0, 0), 9);
        due("least", x.was(0, 1), 11);
        x.see(43, 2);
        due("none", x.was(0, 0), 0);
        due("none, the least", x.was(0, 1), NEVER);
        x.see(-1, 0);
        for (int i = 0; i < 5; i++) {
            x.see(47, 1);
        }
        due("five SEEN", x.was(0, 0), 10);
        x.see(-1, 0);
        x.see(49, 0);
        due("otherwise already now", x.was(0, 0), 0);
        x.see(-1, 0);
        x.see(50, 1);
        due("40 is the most", x.was(0, 0), 1);
        due("40", x.was(0, 1), 40);
        due("by a DEAD one's THANKS", x.was(1, 0), 0);
        due("THANKS stay", x.of(0, 2), 77);
        x.pass(1);
        x.see(-1, 0);
        x.see(x.told(1), 0);
        due("from now on", x.was(0, 0), 41);
        x = with("", HIRED, 0, 5);
        x.soldier(0, 5);
        x.see(0, 20);
        due("gone stays gone", x.was(0, 0), 41);
    }

    private static void p23() {
        SevenUnwashed x = with("", FEARFUL, 3, 0, FALSE, 2, 50);
        all("can, NONE", NONE, x.can(2, 0), x.can(-1, 0), x.can(0, 2), x.can(0, -1), x.can(MAX, 0), x.can(0, MIN));
        due("nothing SEEN: all", x.can(0, 0), 10);
        due("nothing SEEN: the least", x.can(0, 1), 0);
        x.see(54, 1);
        due("can(0, 0)", x.can(0, 0), 1);
        due("can(0, 1)", x.can(0, 1), 7);
        x.see(-1, 0);
        x.see(56, 1);
        due("9 is the most", x.can(0, 0), 1);
        due("9", x.can(0, 1), 9);
        x.see(-1, 0);
        x.see(57, 1);
        due("none", x.can(0, 0), 0);
        due("none, the least", x.can(0, 1), NEVER);
        x.see(-1, 0);
        x.kill(0, true);
        x.pass(6);
        x.see(x.told(1) - 4, 1);
        due("DAY 6: 2, 3 and 6", x.can(1, 0), 3);
        x.see(x.told(1) - 4 + 8 - 4, 2);
        due("and DAY 7 not", x.can(1, 0), 3);
        x.see(-1, 0);
        x.see(x.told(1) - 4 + 8, 1);
        due("all others", x.can(1, 0), 7);
        due("the least", x.can(1, 1), 2);
        due("v stays", x.of(1, 1), 2);
    }

    private static void p24() {
        SevenUnwashed x = new SevenUnwashed();
        all("nobody", NO, x.odds(0, 0), x.odds(5, 1));
        x = with("cold 14", PERSON, 0, 100, PERSON, 0, 0);
        x.soldier(0, 5);
        all("odds, NO", NO, x.odds(-1, 0), x.odds(61, 0), x.odds(1, 2), x.odds(1, -1), x.odds(MAX, 0), x.odds(1, MIN));
        due("above", x.odds(1, 0), 1);
        due("below", x.odds(1, 1), 2);
        due("no DAYS above", x.odds(0, 0), 1);
        due("no DAYS below", x.odds(0, 1), 1);
        due("60 above", x.odds(60, 0), 0);
        due("60 below", x.odds(60, 1), 1);
        due("nobody is DEAD by it", x.of(0, 4) + x.of(1, 4), 0);
        x = with("cold 14", PERSON, 0, 100, PERSON, 0, 0, PERSON, 0, 0, PERSON, 0, 0, PERSON, 0, 0, PERSON, 0, 0);
        x.soldier(0, 5);
        due("5 of 6 above", x.odds(1, 0), 5);
        due("5 of 6 below", x.odds(1, 1), 6);
        x.kill(0, true);
        x.soldier(0, 10);
        due("one DEAD already: 1 of 6 above", x.odds(1, 0), 1);
        due("one DEAD already: 1 of 6 below", x.odds(1, 1), 6);
        x = with("cold 14", PERSON, 0, 100, PERSON, 0, 100, PERSON, 0, 0, PERSON, 0, 0, PERSON, 0, 0, PERSON, 0, 0);
        land(x, "cold 29");
        x.soldier(0, 5);
        due("4 of 6 above", x.odds(1, 0), 2);
        due("4 of 6 below", x.odds(1, 1), 3);
    }

    private static void p25() {
        SevenUnwashed x = new SevenUnwashed();
        all("nobody", NO, x.mean(0, 0), x.mean(5, 1));
        x = with("", PERSON, 0, 3, PERSON, 0, 4);
        all("mean, NO", NO, x.mean(-1, 0), x.mean(61, 0), x.mean(1, 2), x.mean(1, -1), x.mean(MAX, 0), x.mean(1, MIN));
        due("above", x.mean(0, 0), 7);
        due("below", x.mean(0, 1), 2);
        due("one DAY above", x.mean(1, 0), 5);
        x.kill(0, true);
        due("a DEAD one's count above", x.mean(0, 0), 7);
        due("a DEAD one's count below", x.mean(0, 1), 2);
        x.thanks(0, 6);
        due("whole above", x.mean(0, 0), 5);
        due("whole below", x.mean(0, 1), 1);
        due("0 above", x.mean(9, 0), 0);
        due("0 below", x.mean(9, 1), 1);
        x = with("cold 0", PERSON, 0, 3, PERSON, 0, 4, PERSON, 0, 0, PERSON, 0, 0, PERSON, 0, 0, PERSON, 0, 2);
        due("9 by 6 above", x.mean(0, 0), 3);
        due("9 by 6 below", x.mean(0, 1), 2);
        x.round(5);
        due("two DAYS above", x.mean(2, 0), (1 + 2 + 20) / 1);
        due("two DAYS below", x.mean(2, 1), 6);
        due("THANKS stay", x.of(0, 2), 3);
    }

    private static void p26() {
        SevenUnwashed x = with("", PERSON, 0, 0);
        all("winter, NONE", NONE, x.winter(4, 0), x.winter(-2, 0), x.winter(1, 1), x.winter(1, -1), x.winter(MAX, 0), x.winter(MIN, 0));
        for (int i = 1; i <= 10; i++) {
            due("winter", x.winter(i % 4, i % 4 == 1 ? 0 : 99), i);
        }
        due("winter, FULL", x.winter(0, 0), FULL);
        due("winter, NONE ahead of FULL", x.winter(1, 1), NONE);
        due("winter(-1, 99)", x.winter(-1, 99), 0);
        due("the WINTER", x.count(4), 0);
        due("winter", x.winter(3, MIN), 1);
    }

    private static void p27() {
        SevenUnwashed x = with("stink 7", PERSON, 0, 50);
        all("gone, NONE", NONE, x.gone(2), x.gone(-1), x.gone(MAX), x.gone(MIN));
        due("no WINTER: HEALTH", x.gone(0), 50);
        due("no WINTER: SMELL", x.gone(1), 0);
        x.winter(0, 0);
        due("a DAY", x.gone(0), 51);
        due("a DAY's SMELL", x.gone(1), 7);
        x.winter(0, 0);
        due("two DAYS", x.gone(0), 51);
        x.winter(-1, 0);
        x.winter(0, 0);
        x.winter(1, 0);
        x.winter(0, 0);
        due("then one is DEAD", x.gone(0), 46);
        x.winter(2, 0);
        due("10 less", x.gone(0), 36);
        x.winter(3, 0);
        due("SMELL is 0", x.gone(1), 0);
        x.winter(0, 0);
        due("a DAY more", x.gone(0), 31);
        due("its SMELL", x.gone(1), 7);
        x.soldier(0, 15);
        due("0 at least", x.gone(0), 0);
        due("nothing is changed", x.told(1) + x.told(2) + x.of(0, 4), 15);
        x.winter(-1, 0);
        x.soldier(0, 9);
        x.winter(2, 0);
        x.winter(0, 0);
        due("gone: no DAY", x.gone(1), 0);
        x.soldier(1, 30);
        due("gone: SMELL stays", x.gone(1), 30);
        x.winter(3, 0);
        due("gone: it goes all the same", x.gone(1), 0);
    }

    private static void p28() {
        SevenUnwashed x = with("", PERSON, 0, 0);
        all("book, NONE", NONE, x.book(1, 0), x.book(-2, 0), x.book(6, 1000), x.book(MAX, 0), x.book(MIN, 0));
        all("book, BAD", BAD, x.book(0, -1), x.book(0, 1000));
        for (int i = 1; i <= 8; i++) {
            due("book", x.book(0, i == 1 ? 999 : 0), i);
        }
        due("book, FULL", x.book(0, 0), FULL);
        due("book, NONE and BAD ahead of FULL", x.book(1, 0) * 10 + x.book(0, 1000), -12);
        due("book(-1, 1000)", x.book(-1, 1000), 0);
        due("the BOOK", x.count(5), 0);
        due("book", x.book(0, 0), 1);
    }

    private static void p29() {
        SevenUnwashed x = with("", PERSON, 0, 3, PERSON, 0, 4);
        due("no BOOK", x.looked(), NEVER);
        x.book(1, 4);
        x.book(0, 3);
        x.book(1, 4);
        due("all is so", x.looked(), NEVER);
        x.thanks(0, 4);
        due("row 1", x.looked(), 1);
        x.thanks(1, 5);
        due("row 0", x.looked(), 0);
        x.thanks(0, 3);
        x.thanks(1, 4);
        x.book(1, 9);
        due("row 3", x.looked(), 3);
    }

    private static void p30() {
        SevenUnwashed x = new SevenUnwashed();
        all("judge, NONE", NONE, x.judge(6, 0), x.judge(-1, 0), x.judge(MAX, 0), x.judge(MIN, 0));
        due("nobody to look at, no row", x.judge(0, 0), NEVER);
        x.tape(0, 1, 0);
        due("nobody to look at", x.judge(0, 0), NEVER);
        x.tape(1, 2, 3);
        due("nobody, but a CAST", x.judge(1, 0), CAST);
        x = with("", PERSON, 0, 3, PERSON, 0, 4, PERSON, 0, 999);
        due("no row", x.judge(0, 0), 100);
        for (int sort = 0; sort < 5; sort++) {
            x.tape(1, sort, 3);
            due("sort " + sort, x.judge(1, 0), sort == 1 ? 0 : CAST);
        }
        x.tape(0, 1, 5);
        x.item(0, 1, 3);
        x.item(0, 2, 4);
        x.item(0, 3, 999);
        due("none is otherwise", x.judge(0, 1), NEVER);
        due("the first is", x.judge(0, 0), 0);
        x.item(0, 3, 998);
        due("the last is", x.judge(0, 1), 2);
        x.item(0, 2, 5);
        due("the second is", x.judge(0, 1), 1);
        x.item(0, 3, 3);
        x.item(0, 4, 4);
        due("the row ends", x.judge(0, 3), 102);
        x.item(0, 4, 3);
        due("the row ends", x.judge(0, 4), 101);
        all("at and beyond the end, below 0", 100, x.judge(0, 5), x.judge(0, MAX), x.judge(0, -1), x.judge(0, MIN));
        due("a CAST at a place below 0", x.judge(1, -1), CAST);
    }

    private static void p31() {
        SevenUnwashed x = new SevenUnwashed();
        due("image of nobody", x.image(), 0);
        x.person(0, 0, 0);
        x.person(0, 0, 0);
        due("image of two", x.image(), 2);
        x.person(0, 0, 0);
        due("the newest one is kept", x.undo(), 2);
        due("image()", x.image(), 2);
    }

    private static void p32() {
        SevenUnwashed x = with("cold 3", TOLD, 4, 30, DEVOUT, 5, 40);
        due("undo, STATE", x.undo(), STATE);
        x.row(0, 2, 8);
        x.kill(1, true);
        x.round(1);
        x.round(0);
        x.pass(2);
        x.see(11, 1);
        x.winter(3, 0);
        x.winter(2, 0);
        x.book(0, 30 - 1 + 14 - 1);
        x.book(1, 0);
        int[] before = state(x);
        due("row 1 of the BOOK is otherwise", x.looked(), 1);
        due("image()", x.image(), 2);
        x.person(FALSE, 1, 1);
        x.row(0, 2, 1);
        x.thanks(0, 500);
        x.kill(1, false);
        x.soldier(0, 500);
        x.soldier(1, 500);
        x.round(2);
        x.pass(7);
        x.see(12, 2);
        x.winter(0, 0);
        x.book(2, 1);
        land(x, "cold 9;pocket 8;stink 7;open 50 p=0");
        x.feed('c');
        x.tape(0, 1, 2);
        x.act(0, 0, 1);
        due("undo()", x.undo(), 2);
        int[] then = state(x);
        for (int i = 0; i < before.length; i++) {
            due("as THE IMAGE, " + i, then[i], before[i]);
        }
        due("LANDS stay", x.count(1), 2);
        due("THE TEXT stays", x.count(6), 1);
        due("TAPES stay", x.read(0, 1), 0);
        due("THE TRACE stays", x.count(7), 2);
        x.thanks(0, 1);
        x.see(-1, 0);
        x.book(-1, 0);
        x.winter(-1, 0);
        x.round(-1);
        due("undo() again", x.undo(), 2);
        then = state(x);
        for (int i = 0; i < before.length; i++) {
            due("as THE IMAGE again, " + i, then[i], before[i]);
        }
        for (int i = 0; i < 2; i++) {
            x.see(600, 9);
            x.book(1, 999);
            x.winter(0, 0);
            x.round(0);
            x.see(-1, 0);
            x.book(-1, 0);
            x.winter(-1, 0);
            x.round(-1);
        }
        x.undo();
        then = state(x);
        for (int i = 0; i < before.length; i++) {
            due("as THE IMAGE where others were told, " + i, then[i], before[i]);
        }
        x = with("", PERSON, 0, 0);
        for (int i = 0; i < 10; i++) {
            x.see(50, 0);
            x.winter(0, 0);
            x.book(0, 0);
            x.round(0);
        }
        x.image();
        due("a full IMAGE", x.undo(), 1);
        due("all that is told", x.count(2) * 1000 + x.count(3) * 100 + x.count(4) * 10 + x.count(5), 6608);
        x = new SevenUnwashed();
        x.image();
        land(x, "cold 9");
        x.undo();
        due("no LAND holds", x.told(3), 5);
        due("the next LAND", land(x, "cold 8"), 1);
    }

    private static int[] state(SevenUnwashed x) {
        int[] all = new int[60];
        int n = 0;
        for (int what = 0; what < 8; what++) {
            all[n++] = x.told(what);
        }
        for (int place = 0; place < 3; place++) {
            all[n++] = x.told(10 + place);
        }
        for (int what = 0; what < 6; what++) {
            all[n++] = what == 1 ? 0 : x.count(what);
        }
        for (int p = 0; p < 3; p++) {
            for (int what = 0; what < 8; what++) {
                all[n++] = x.of(p, what);
            }
        }
        all[n++] = x.on(30, 0);
        all[n++] = x.gone(0);
        all[n++] = x.gone(1);
        all[n++] = x.looked();
        all[n++] = x.was(0, 0);
        all[n++] = x.can(0, 0);
        return all;
    }

    private static void acts(String call, SevenUnwashed x, int person, int act, int argument, int want, int... bodies) {
        due(call, x.act(person, act, argument), want);
        traced(call, x, bodies);
    }

    private static void p33() {
        SevenUnwashed x = with("", PERSON, 3, 0, DEVOUT, 4, 0, FEARFUL, 5, 0, GREEDY, 6, 0, FALSE, 7, 0, HIRED, 8, 0);
        acts("PERSON opens", x, 0, 0, 10, 10, 10);
        acts("PERSON prays", x, 0, 1, 10, 7, 11, 10);
        acts("PERSON tells", x, 0, 2, 10, 14, 12, 11, 10);
        acts("DEVOUT opens", x, 1, 0, 10, 11, 10);
        acts("DEVOUT prays", x, 1, 1, 10, 1, 20, 11, 10);
        acts("DEVOUT tells", x, 1, 2, 10, 2, 12, 20, 11, 10);
        acts("FEARFUL opens", x, 2, 0, 10, 32, 30, 10);
        acts("FEARFUL prays", x, 2, 1, 10, 27, 11, 30, 10);
        acts("FEARFUL tells", x, 2, 2, 10, 54, 12, 11, 30, 10);
        acts("GREEDY opens", x, 3, 0, 10, 13, 10);
        acts("GREEDY prays", x, 3, 1, 10, 7, 11, 10);
        acts("GREEDY tells", x, 3, 2, 10, 12, 40, 12, 11, 10, 11, 10);
        acts("FALSE opens", x, 4, 0, 10, -14, 50, 10);
        acts("FALSE prays", x, 4, 1, 10, -20, 51, 20, 11, 50, 10);
        acts("FALSE tells", x, 4, 2, 10, -40, 12, 51, 20, 11, 50, 10);
        acts("HIRED opens", x, 5, 0, 10, 35, 30, 10);
        acts("HIRED prays", x, 5, 1, 10, 27, 11, 30, 10);
        acts("HIRED tells", x, 5, 2, 10, 24, 60, 12, 11, 30, 10);
        due("wrapping prays", x.act(0, 2, MAX), -8);
        due("wrapping opens", x.act(2, 0, MAX), MAX);
        due("wrapping the other way", x.act(1, 0, MAX), MIN);
        acts("no such PERSON", x, 6, 0, 1, 0);
        x.act(0, 2, 1);
        acts("no such act", x, 0, 3, 1, 0);
        x.act(0, 2, 1);
        acts("no such PERSON", x, -1, 0, 1, 0);
        x.act(0, 2, 1);
        acts("no such act", x, 0, -1, 1, 0);
        acts("no such PERSON", x, MAX, MIN, 1, 0);
        x = with("", PERSON, 0, 0, TOLD, 9, 0);
        acts("TOLD opens", x, 1, 0, 10, 2, 71, 10);
        acts("TOLD prays", x, 1, 1, 10, -4, 70, 11, 71, 10, 10);
        acts("TOLD tells", x, 1, 2, 10, -3, 40, 12, 70, 11, 71, 10, 10, 70, 11, 71, 10, 10);
        x.kill(1, true);
        due("a DEAD one acts", x.act(1, 0, 10), 2);
    }

    private static void p34() {
        SevenUnwashed x = with("", PERSON, 0, 0, GREEDY, 0, 0);
        all("no TRACE", NONE, x.trace(0), x.trace(-1), x.trace(MAX), x.trace(MIN));
        x.act(1, 2, 0);
        traced("the latest", x, 40, 12, 11, 10, 11, 10);
        x.act(0, 0, 0);
        traced("the latest alone", x, 10);
        all("trace, NONE", NONE, x.trace(-1), x.trace(1), x.trace(5), x.trace(20), x.trace(MAX), x.trace(MIN));
    }

    private static void p35() {
        SevenUnwashed x = with("", PERSON, 0, 0, DEVOUT, 0, 0, FEARFUL, 0, 0, GREEDY, 0, 0, FALSE, 0, 0, HIRED, 0, 0);
        SevenUnwashed y = with("", TOLD, 0, 0);
        boolean[][] under = new boolean[7][7];
        int[] above = {0, 0, 0, 0, DEVOUT, FEARFUL, GREEDY};
        for (int kind = 0; kind < 7; kind++) {
            under[kind][PERSON] = true;
            under[kind][kind] = true;
            under[kind][above[kind]] = true;
            for (int k = 0; k < 7; k++) {
                int got = kind < 6 ? x.taken(kind, k) : y.taken(0, k);
                due("KIND " + kind + " taken for " + k, got, under[kind][k] ? kind : CAST);
            }
        }
        all("taken, BAD", BAD, x.taken(0, -1), x.taken(0, 7), x.taken(9, 7), x.taken(0, MAX), x.taken(0, MIN));
        all("taken, NOTHING", NOTHING, x.taken(6, 0), x.taken(-1, 6), y.taken(1, 0), y.taken(MAX, 0), y.taken(MIN, 0));
    }

    private static void p36() {
        SevenUnwashed x = with("cold 1", PERSON, 0, 0, PERSON, 0, 0);
        land(x, "cold 2");
        land(x, "cold 3");
        for (int i = 0; i < 4; i++) {
            x.round(0);
        }
        for (int i = 0; i < 5; i++) {
            x.see(0, 0);
        }
        for (int i = 0; i < 6; i++) {
            x.winter(0, 0);
        }
        for (int i = 0; i < 7; i++) {
            x.book(0, 0);
        }
        for (int i = 0; i < 8; i++) {
            x.feed('p');
        }
        x.act(0, 2, 0);
        int[] many = {2, 3, 4, 5, 6, 7, 8, 3};
        for (int what = 0; what < 8; what++) {
            due("count(" + what + ")", x.count(what), many[what]);
        }
        all("count, BAD", BAD, x.count(-1), x.count(8), x.count(MAX), x.count(MIN));
    }

    private static void p37() {
        SevenUnwashed x = new SevenUnwashed();
        all("tape, NONE", NONE, x.tape(6, 0, 1), x.tape(-1, 9, 99), x.tape(6, -1, 0), x.tape(MAX, 0, 0), x.tape(MIN, 0, 0));
        all("tape, BAD", BAD, x.tape(0, 5, 1), x.tape(0, -2, 1), x.tape(0, 0, 61), x.tape(0, 5, -1), x.tape(0, 0, MAX), x.tape(0, MAX, 0));
        all("tape, SIZE", SIZE, x.tape(0, 0, -1), x.tape(5, 4, MIN));
        due("nothing came of it", x.read(0, 0), NO);
        for (int sort = 0; sort < 5; sort++) {
            due("tape", x.tape(sort, sort, 60), 1);
            due("the last item", x.read(sort, 59), 0);
            due("behind it", x.read(sort, 60), NO);
        }
        x.item(3, 59, 7);
        due("tape again", x.tape(3, 3, 60), 1);
        due("all 0", x.read(3, 59), 0);
        x.item(3, 0, 7);
        x.item(4, 0, 1);
        x.tape(3, 3, 60);
        due("all 0, the first too", x.read(3, 0), 0);
        due("another TAPE's first", x.read(4, 0), 1);
        due("a row of none", x.tape(3, 2, 0), 1);
        due("no place in it", x.item(3, 0, 0), PLACE);
        due("tape(3, -1, 99)", x.tape(3, -1, 99), 1);
        due("tape(4, -1, -99)", x.tape(4, -1, -99), 1);
        all("nothing there", NOTHING, x.item(3, 0, 0), x.item(4, 0, 0));
        due("tape(3, -1, 0) again", x.tape(3, -1, 0), 1);
        all("nothing to read", NO, x.read(3, 0), x.read(4, 0));
        x.person(PERSON, 0, 5);
        due("nothing to judge", x.judge(4, 0), 100);
    }

    private static void p38() {
        SevenUnwashed x = new SevenUnwashed();
        all("item, NONE", NONE, x.item(6, 0, 0), x.item(-1, 0, 0), x.item(MAX, 0, 0), x.item(MIN, 0, 0));
        due("item, NOTHING", x.item(0, -1, 0), NOTHING);
        long v = 0x7FEDCBA987654381L;
        long[] kept = {(byte) 0x81, 0x4381, 0x87654381, v, 1};
        long[] below = {-1, -1, -1, -1, 1};
        for (int sort = 0; sort < 5; sort++) {
            x.tape(0, sort, 3);
            all("item, PLACE", PLACE, x.item(0, -1, 0), x.item(0, 3, 0), x.item(0, MAX, 0), x.item(0, MIN, 0));
            due("item", x.item(0, 2, v), 1);
            due("sort " + sort, x.read(0, 2), kept[sort]);
            x.item(0, 1, -1);
            due("below 0, sort " + sort, x.read(0, 1), below[sort]);
            x.item(0, 1, 1L << 32);
            due("its lowest bits, sort " + sort, x.read(0, 1), sort == 3 ? 1L << 32 : sort == 4 ? 1 : 0);
            x.item(0, 2, 0);
            due("0 again", x.read(0, 2), 0);
            due("another item", x.read(0, 0), 0);
        }
        x.tape(1, 1, 1);
        x.item(1, 0, 0x8000);
        due("shorts", x.read(1, 0), -32768);
        x.tape(1, 2, 1);
        x.item(1, 0, 0x80000000L);
        due("ints", x.read(1, 0), MIN);
    }

    private static void p39() {
        SevenUnwashed x = new SevenUnwashed();
        all("read, NO", NO, x.read(6, 0), x.read(-1, 0), x.read(0, 0), x.read(MAX, 0), x.read(MIN, 0));
        x.tape(5, 3, 2);
        x.item(5, 1, Long.MAX_VALUE);
        due("read(5, 1)", x.read(5, 1), Long.MAX_VALUE);
        due("read(5, 0)", x.read(5, 0), 0);
        all("no such place", NO, x.read(5, -1), x.read(5, 2), x.read(5, MAX), x.read(5, MIN));
    }

    private static void reads(String call, SevenUnwashed x, int tape, int... items) {
        for (int i = 0; i < items.length; i++) {
            due(call + ", item " + i, x.read(tape, i), items[i]);
        }
    }

    private static void p40() {
        SevenUnwashed x = new SevenUnwashed();
        all("shift, NONE", NONE, x.shift(6, 0, 0, 0, 0), x.shift(0, 0, 6, 0, 0), x.shift(-1, 0, 0, 0, 0), x.shift(0, 0, -1, 0, 0),
            x.shift(MAX, 0, 0, 0, 0), x.shift(0, 0, MIN, 0, 0));
        x.tape(0, 2, 5);
        x.tape(1, 2, 3);
        x.tape(2, 3, 5);
        all("shift, NOTHING", NOTHING, x.shift(0, 0, 5, 0, 1), x.shift(5, 0, 0, 0, 1), x.shift(5, -1, 5, 0, 1));
        all("shift, CAST", CAST, x.shift(0, 0, 2, 0, 1), x.shift(2, -1, 0, 0, -1));
        all("shift, PLACE", PLACE, x.shift(0, 0, 1, 0, -1), x.shift(0, -1, 1, 0, 1), x.shift(0, 0, 1, -1, 1), x.shift(0, 0, 1, 0, 4),
            x.shift(0, 4, 1, 0, 2), x.shift(0, 0, 1, 3, 1), x.shift(0, 6, 1, 0, 0), x.shift(0, 0, 1, 4, 0), x.shift(0, MAX, 1, 0, 1),
            x.shift(0, 1, 1, 0, MAX), x.shift(0, 0, 1, MAX, MAX), x.shift(0, MIN, 0, 0, MAX), x.shift(0, 0, 0, 0, MIN));
        for (int i = 0; i < 5; i++) {
            x.item(0, i, i + 1);
        }
        due("shift to another", x.shift(0, 2, 1, 0, 3), 3);
        reads("there", x, 1, 3, 4, 5);
        reads("here", x, 0, 1, 2, 3, 4, 5);
        due("shift upward", x.shift(0, 0, 0, 1, 4), 4);
        reads("upward", x, 0, 1, 1, 2, 3, 4);
        due("shift downward", x.shift(0, 2, 0, 0, 3), 3);
        reads("downward", x, 0, 2, 3, 4, 3, 4);
        all("none", 0, x.shift(0, 5, 0, 5, 0), x.shift(0, 5, 1, 3, 0), x.shift(1, 0, 0, 0, 0));
        reads("as before", x, 0, 2, 3, 4, 3, 4);
        due("one", x.shift(1, 1, 0, 4, 1), 1);
        reads("one", x, 0, 2, 3, 4, 3, 4);
        reads("the end is as it was", x, 1, 3, 4, 5);
    }

    private static void first() {
        at("promise 1"); p01();
        at("promise 2"); p02();
        at("promise 3"); p03();
        at("promise 4"); p04();
        at("promise 5"); p05();
        at("promise 6"); p06();
        at("promise 7"); p07();
        at("promise 8"); p08();
        at("promise 9"); p09();
        at("promise 10"); p10();
        at("promise 11"); p11();
        at("promise 12"); p12();
        at("promise 13"); p13();
        at("promise 14"); p14();
        at("promise 15"); p15();
        at("promise 16"); p16();
        at("promise 17"); p17();
        at("promise 18"); p18();
        at("promise 19"); p19();
        at("promise 20"); p20();
    }

    private static void second() {
        at("promise 21"); p21();
        at("promise 22"); p22();
        at("promise 23"); p23();
        at("promise 24"); p24();
        at("promise 25"); p25();
        at("promise 26"); p26();
        at("promise 27"); p27();
        at("promise 28"); p28();
        at("promise 29"); p29();
        at("promise 30"); p30();
        at("promise 31"); p31();
        at("promise 32"); p32();
        at("promise 33"); p33();
        at("promise 34"); p34();
        at("promise 35"); p35();
        at("promise 36"); p36();
        at("promise 37"); p37();
        at("promise 38"); p38();
        at("promise 39"); p39();
        at("promise 40"); p40();
    }

    public static void main(String[] args) {
        first();
        second();
        end();
    }
}
