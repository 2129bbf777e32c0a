/** The sentences of the document's Terms that name a bound, each by a test of its own, reckoned by hand. */
public final class TermsTest extends Sentences {
    private static void people() {
        terms("PEOPLE 0 .. 5, as they come");
        SevenUnwashed x = new SevenUnwashed();
        for (int i = 0; i < 6; i++) {
            due("the next one", x.person(6 - i, i, 10 * i), i);
        }
        due("a seventh", x.person(0, 0, 0), FULL);
        due("how many", x.count(0), 6);
        for (int i = 0; i < 6; i++) {
            due("KIND, v, THANKS", x.of(i, 0) * 10000 + x.of(i, 1) * 1000 + x.of(i, 2), (6 - i) * 10000 + 1010 * i);
        }
        terms("0 PERSON; 1 DEVOUT, 2 FEARFUL, 3 GREEDY under PERSON; 4 FALSE under DEVOUT; 5 HIRED under FEARFUL; 6 TOLD under GREEDY");
        int[] above = {-1, 0, 0, 0, 1, 2, 3};
        for (int kind = 0; kind < 7; kind++) {
            x = with("", kind, 0, 0);
            for (int k = 0; k < 7; k++) {
                boolean is = k == kind || k == above[kind] || k == 0;
                due(kind + " for " + k, x.taken(0, k), is ? kind : CAST);
            }
        }
        terms("with a number v (0 .. 9)");
        x = with("", PERSON, 0, 0, PERSON, 9, 0);
        due("0 and 9", x.of(0, 1) * 10 + x.of(1, 1), 9);
        all("below, above", BAD, x.person(0, -1, 0), x.person(0, 10, 0));
        terms("THANKS (0 .. 999), GOT");
        x = with("", PERSON, 0, 0, PERSON, 0, 999);
        due("0", x.of(0, 2), 0);
        due("999", x.of(1, 2), 999);
        all("below, above", BAD, x.person(0, 0, -1), x.person(0, 0, 1000), x.thanks(0, -1), x.thanks(0, 1000));
        terms("(how much gold in all, 0 .. 99999; 0 at first)");
        x = with("cold 0;pocket 99", PERSON, 0, 0);
        due("at first", x.of(0, 3), 0);
        x.round(0);
        days(x, 1010);
        due("in all", x.of(0, 3), 99990);
        x.pass(1);
        due("no more than that", x.of(0, 3), 99999);
        x.pass(1);
        due("still", x.of(0, 3), 99999);
        terms("DEAD, or not (not at first)");
        for (int kind = 0; kind < 7; kind++) {
            due("KIND " + kind, with("", kind, 0, 0).of(0, 4), 0);
        }
    }

    private static void soldier() {
        terms("HEALTH (0 .. 999; 50 at first; he is gone, if it is 0)");
        SevenUnwashed x = with("cold 0");
        due("at first", x.told(1), 50);
        all("below, above", BAD, x.soldier(0, -1), x.soldier(0, 1000));
        x.soldier(0, 1);
        due("not gone at 1", x.pass(1), 1);
        x.soldier(0, 0);
        due("gone at 0", x.pass(1), STATE);
        x.soldier(0, 999);
        due("999", x.pass(1), 999);
        terms("SMELL (0 .. 999; 0 at first)");
        x = new SevenUnwashed();
        due("at first", x.told(2), 0);
        all("below, above", BAD, x.soldier(1, -1), x.soldier(1, 1000));
        x.soldier(1, 999);
        due("999", x.told(2), 999);
        x.soldier(1, 0);
        due("0", x.told(2), 0);
        terms("(6 at most, one may be there again; none at first)");
        x = with("", PERSON, 0, 0);
        all("none", NONE, x.told(10), x.told(15));
        for (int i = 1; i <= 6; i++) {
            due("there again", x.round(0), i);
        }
        due("a seventh", x.round(0), FULL);
        due("the last", x.told(15), 0);
        terms("DAY: 0 at first");
        due("DAY", new SevenUnwashed().told(0), 0);
    }

    private static void fault(String text, int fault) {
        due("\"" + text + "\"", land(new SevenUnwashed(), text), -10 - fault);
    }

    private static void stands(String text) {
        due("\"" + text + "\"", land(new SevenUnwashed(), text), 0);
    }

    private static void text() {
        terms("THE TEXT (bytes, 100 at most)");
        SevenUnwashed x = new SevenUnwashed();
        String hundred = "open 10 p=1" + "|p=11".repeat(17) + "&p=0";
        for (int i = 0; i < 100; i++) {
            due("byte " + i, x.feed(hundred.charAt(i)), i + 1);
        }
        due("one more", x.feed('1'), FULL);
        due("all of it is a LAND", x.land(), 0);
        terms("CLAUSES, 1 to 10, with ; between");
        String nine = "cold 1;cold 2;cold 3;cold 4;cold 5;cold 6;cold 7;cold 8;cold 9";
        fault("", 0);
        stands("cold 1");
        stands(nine + ";cold 7");
        fault(nine + ";cold 7;cold 8", 69);
        fault("cold 1cold 2", 6);
        fault("cold 1;;cold 2", 7);
        fault("cold 1; cold 2", 7);
        fault(";cold 1", 0);
        fault("cold 1,cold 2", 6);
        terms("open n E; shut n E; cold n; pocket n; stink n");
        stands("open 1 p=1;shut 1 p=1;cold 1;pocket 1;stink 1");
        for (String word : new String[] {"open", "shut"}) {
            fault(word + " 1", 6);
            fault(word + " 1;", 6);
        }
        for (String word : new String[] {"cold", "pocket", "stink"}) {
            fault(word + " 1 p=1", word.length() + 2);
        }
        fault("warm 1", 0);
        fault("Cold 1", 0);
        fault("colder 1", 4);
        terms("(one blank ahead of each part behind the word; n 1 or 2 digits)");
        for (String word : new String[] {"open", "shut", "cold", "pocket", "stink"}) {
            String rest = word.charAt(1) == 'p' || word.charAt(1) == 'h' ? " p=1" : "";
            int behind = word.length();
            stands(word + " 0" + rest);
            stands(word + " 00" + rest);
            stands(word + " 99" + rest);
            fault(word + "1" + rest, behind);
            fault(word + "  1" + rest, behind + 1);
            fault(word + " 123" + rest, behind + 3);
            fault(word + " " + rest, behind + (rest.isEmpty() ? 1 : 1));
            fault(word + " -1" + rest, behind + 1);
            fault(" " + word + " 1" + rest, 0);
            fault(word + " 1 " + rest, behind + (rest.isEmpty() ? 2 : 3));
            fault(word + " 1" + rest + " ", behind + 2 + rest.length());
        }
        fault("open 1p=1", 6);
        fault("open 12p=1", 7);
    }

    private static void expressions() {
        terms("E: T or T|E. T: F or F&T. F: !F, (E), or a TEST");
        stands("open 1 p=1|p=1|p=1");
        stands("open 1 p=1&p=1&p=1|p=1&p=1");
        stands("open 1 !(p=1)&!p=1");
        String[] amiss = {"|p=1", "&p=1", ")", "()", "(|p=1)", "(&p=1)", "!", "!&p=1", "!|p=1", "!;cold 1", "!)", "(!)", "1", "=1", " p=1"};
        int[] places = {0, 0, 0, 1, 1, 1, 1, 1, 1, 1, 1, 2, 0, 0, 0};
        for (int i = 0; i < amiss.length; i++) {
            fault("open 1 " + amiss[i], 7 + places[i]);
        }
        String[] broken = {"p=1|", "p=1&", "p=1||p=1", "p=1|&p=1", "p=1&|p=1", "p=1&&p=1", "p=1|)", "p=1p=1", "p=1!p=1", "p=1(p=1)"};
        int[] where = {4, 4, 4, 4, 4, 4, 4, 3, 3, 3};
        for (int i = 0; i < broken.length; i++) {
            fault("open 1 " + broken[i], 7 + where[i]);
        }
        fault("open 1 (p=1", 11);
        fault("open 1 (p=1;cold 1", 11);
        fault("open 1 p=1)", 10);
        fault("open 1 (p=1))", 12);
        String[] es = {"p=1", "!p=1", "!!p=1", "p=1|p=2", "p=1|p=2|p=5", "p>0&p<4", "p>0&p<4&v=1", "p=0|p>0&p<3", "p>0&p<3|p=0",
            "(p=0|p>0)&p<3", "p<3&(p=0|p>1)", "!p=0&p<3", "p<3&!p=0", "!(p=0|p=5)", "!(!(p=1|p=2)|p=1)", "p=9", "!p=9", "!!!!p=4", "!!!p=4",
            "((((p=3))))", "p=1&p=2|p=3&p<4|v=1&p>4", "p<1|(p>4|(p=2|p=3)&(p=3|p=4))&!p=5", "(p<2|p>3)&(p<1|p=4|p=1)&!(p=0)",
            "p=9|p<9&(p=9|p<9&(p=9|p<9&(p=9|p<9&(p=9|p<9&p=1))))", "p=9|p<9&!!!!p=3|p=5",
            "!!!!p<3&!!!!p>0&!!!!v=1&!!!!p<9&!!!!t=0&!!!!s=0&!!!!d=0&!!!!p=1"};
        int[] bits = {2, 61, 2, 6, 38, 14, 10, 7, 7, 7, 5, 6, 6, 30, 4, 0, 63, 16, 47, 8, 40, 9, 18, 2, 40, 2};
        for (int i = 0; i < es.length; i++) {
            due("for whom " + es[i], with("shut 1 p<9;open 1 " + es[i] + ";cold 1",
                PERSON, 0, 0, PERSON, 1, 0, PERSON, 0, 0, PERSON, 1, 0, PERSON, 0, 0, PERSON, 1, 0).told(6), bits[i]);
        }
        terms("a letter, < or = or >, a number (1 or 2 digits)");
        for (char letter : "pkvtsd".toCharArray()) {
            for (char sign : "<=>".toCharArray()) {
                stands("open 1 " + letter + sign + "0");
                stands("open 1 " + letter + sign + "99");
                fault("open 1 " + letter + sign + "999", 11);
                fault("open 1 " + letter + sign, 9);
                fault("open 1 " + letter + sign + "&p=1", 9);
            }
            fault("open 1 " + letter + "1", 8);
            fault("open 1 " + letter + "!1", 8);
            fault("open 1 " + letter + "<=1", 9);
        }
        fault("open 1 a=1", 7);
        fault("open 1 D=1", 7);
        terms("A ( or ! within 4 others is none.");
        String[] four = {"!!!!p=1", "((((p=1))))", "!(!(p=1))", "(!(!p=1))", "!!((p=1))", "(((!p=1)))"};
        for (String e : four) {
            stands("open 1 " + e);
            stands("open 1 " + e + "|" + e + "&" + e);
            int at = e.indexOf('p');
            fault("open 1 " + e.substring(0, at) + "!" + e.substring(at), 7 + at);
            fault("open 1 " + e.substring(0, at) + "(" + e.substring(at), 7 + at);
            if (e.charAt(at - 1) == '(') {
                fault("open 1 " + e.substring(0, at) + "p=1&!" + e.substring(at), 7 + at + 4);
                fault("open 1 " + e.substring(0, at) + "p=1|(" + e.substring(at), 7 + at + 4);
            }
        }
        stands("open 1 (((p=1)&(p=1)|!p=1)&((p=1)|!p=1))");
        terms("the place of the first byte with which none begins so");
        fault("x", 0);
        fault("open 1 p=1;x", 11);
        fault("stunk 1", 2);
        fault("shink 1", 2);
        fault("\u007f", 0);
        fault("open 1 p=1\u0000", 10);
        fault("open x y z", 5);
        terms("(the end of THE TEXT, if it ends too early)");
        String whole = "open 12 !(p=1&k<2);pocket 3";
        for (int i = 0; i < whole.length(); i++) {
            if (i != 18) {
                fault(whole.substring(0, i), i);
            }
        }
        stands(whole.substring(0, 18));
        fault("cold 1;", 7);
        for (char sign : "!(p19&|;) ".toCharArray()) {
            for (int i = 0; i < whole.length(); i++) {
                SevenUnwashed x = new SevenUnwashed();
                feed(x, "x" + ("" + sign).repeat(99));
                due("a long one", x.land(), -10);
                due("behind a long one, " + whole.substring(0, i), land(x, whole.substring(0, i)), i == 18 ? 0 : -10 - i);
            }
        }
    }

    private static void lands() {
        terms("The newest LAND holds (6 at most); without one there are no CLAUSES.");
        SevenUnwashed x = with("", PERSON, 0, 20);
        due("no door", x.of(0, 5), 20);
        due("COLD, POCKET, STINK", x.told(3) * 10000 + x.told(4) * 100 + x.told(5), 51001);
        for (int i = 0; i < 6; i++) {
            due("LAND", land(x, "cold " + i + ";open " + i + " p=0"), i);
            due("its COLD", x.told(3), i);
            due("its door", x.of(0, 5), 20 + i);
        }
        due("a seventh", land(x, "cold 9"), FULL);
        due("the sixth holds", x.told(3), 5);
        terms("the n of all open whose E holds, less those of all shut, together (may be below 0)");
        x = with("open 9 p<2;open 30 p=0;shut 99 p>0;shut 1 p=1;open 7 p=2", PERSON, 0, 5, PERSON, 0, 5, PERSON, 0, 5);
        due("39 and 5", x.of(0, 5), 44);
        due("9 less 100, and 5", x.of(1, 5), -86);
        due("7 less 99, and 5", x.of(2, 5), -87);
        due("who LETS", x.told(6), 1);
        x = with("shut 99 p=0;shut 99 p=0;shut 99 p=0;shut 99 p=0;shut 99 p=0;shut 99 p=0;shut 99 p=0", PERSON, 0, 0);
        due("far below", x.of(0, 5), -693);
        x.soldier(1, 999);
        due("farther", x.of(0, 5), -792);
        terms("COLD (5 without), POCKET (10 without), STINK (1 without): the last one's n");
        x = with("open 1 p=0");
        due("without", x.told(3) * 10000 + x.told(4) * 100 + x.told(5), 51001);
        x = with("cold 98;pocket 97;stink 96;cold 3;pocket 0;stink 99");
        due("the last COLD", x.told(3), 3);
        due("the last POCKET", x.told(4), 0);
        due("the last STINK", x.told(5), 99);
        x = with("cold 0;cold 99;stink 0");
        due("99", x.told(3), 99);
        due("POCKET without", x.told(4), 10);
        due("0", x.told(5), 0);
    }

    /** WELCOME is THANKS and 50 more for those for whom an E holds. */
    private static int holds(String e, int smell, int day, int thanks) {
        SevenUnwashed x = with("open 50 " + e + ";cold 0;stink 0", PERSON, 0, 0);
        days(x, day);
        x.thanks(0, thanks);
        x.soldier(1, smell);
        return x.of(0, 5) - thanks + smell / 10 == 50 ? 1 : 0;
    }

    private static void letters() {
        terms("p its number, k its KIND, v its v");
        SevenUnwashed x = with("open 1 p=1;open 10 k=1;open 20 v=1;open 40 v>8", FALSE, 1, 0, PERSON, 9, 0, DEVOUT, 0, 0);
        due("p 0, k 4, v 1", x.of(0, 5), 20);
        due("p 1, k 0, v 9", x.of(1, 5), 41);
        due("p 2, k 1, v 0", x.of(2, 5), 10);
        terms("t THANKS by 10 (cut)");
        int[] thanks = {0, 9, 10, 19, 20, 980, 989, 990, 999};
        int[] tens = {0, 0, 1, 1, 2, 98, 98, 99, 99};
        for (int i = 0; i < 9; i++) {
            due("t=1 at " + thanks[i], holds("t=1", 0, 0, thanks[i]), tens[i] == 1 ? 1 : 0);
            due("t<1 at " + thanks[i], holds("t<1", 0, 0, thanks[i]), tens[i] < 1 ? 1 : 0);
            due("t>1 at " + thanks[i], holds("t>1", 0, 0, thanks[i]), tens[i] > 1 ? 1 : 0);
            due("t=99 at " + thanks[i], holds("t=99", 0, 0, thanks[i]), tens[i] == 99 ? 1 : 0);
            due("t>98 at " + thanks[i], holds("t>98", 0, 0, thanks[i]), tens[i] == 99 ? 1 : 0);
            due("t<0 at " + thanks[i], holds("t<0", 0, 0, thanks[i]), 0);
            due("t>99 at " + thanks[i], holds("t>99", 0, 0, thanks[i]), 0);
        }
        terms("s SMELL by 10 (cut)");
        for (int i = 0; i < 9; i++) {
            due("s=1 at " + thanks[i], holds("s=1", thanks[i], 0, 0), tens[i] == 1 ? 1 : 0);
            due("s<1 at " + thanks[i], holds("s<1", thanks[i], 0, 0), tens[i] < 1 ? 1 : 0);
            due("s>1 at " + thanks[i], holds("s>1", thanks[i], 0, 0), tens[i] > 1 ? 1 : 0);
            due("s=99 at " + thanks[i], holds("s=99", thanks[i], 0, 0), tens[i] == 99 ? 1 : 0);
            due("s>98 at " + thanks[i], holds("s>98", thanks[i], 0, 0), tens[i] == 99 ? 1 : 0);
            due("s>99 at " + thanks[i], holds("s>99", thanks[i], 0, 0), 0);
        }
        terms("d DAY modulo 10");
        for (int day = 0; day < 22; day++) {
            due("d=0 on " + day, holds("d=0", 0, day, 0), day % 10 == 0 ? 1 : 0);
            due("d>8 on " + day, holds("d>8", 0, day, 0), day % 10 == 9 ? 1 : 0);
            due("d<2 on " + day, holds("d<2", 0, day, 0), day % 10 < 2 ? 1 : 0);
            due("d=10 on " + day, holds("d=10", 0, day, 0), 0);
            due("d<10 on " + day, holds("d<10", 0, day, 0), 1);
        }
    }

    private static void welcome() {
        terms("DOOR and THANKS, less the tenth (cut) of SMELL");
        SevenUnwashed x = with("open 7 p=0", PERSON, 0, 20);
        int[] smells = {0, 9, 10, 19, 20, 999};
        int[] less = {0, 0, 1, 1, 2, 99};
        for (int i = 0; i < 6; i++) {
            x.soldier(1, smells[i]);
            due("at SMELL " + smells[i], x.of(0, 5), 27 - less[i]);
        }
        terms("It LETS him in, if it is not DEAD");
        for (int kind = 0; kind < 7; kind++) {
            x = with("", kind, 0, 5);
            due("alive", x.of(0, 6) + x.told(6), 2);
            x.kill(0, true);
            due("DEAD", x.of(0, 6) + x.told(6), 0);
        }
        terms("PERSON, DEVOUT, GREEDY, FALSE, TOLD: WELCOME is 0 or more");
        for (int kind : new int[] {PERSON, DEVOUT, GREEDY, FALSE, TOLD}) {
            x = with("shut 10 p=0", kind, 0, 30);
            x.soldier(1, 200);
            due("WELCOME 0, KIND " + kind, x.of(0, 5) * 10 + x.of(0, 6), 1);
            x.thanks(0, 29);
            due("WELCOME -1, KIND " + kind, x.of(0, 6), 0);
            x.thanks(0, 31);
            due("WELCOME 1, KIND " + kind, x.of(0, 6), 1);
        }
        terms("FEARFUL: likewise, but not if SMELL is above 100");
        x = with("", FEARFUL, 0, 10);
        x.soldier(1, 100);
        due("at 100", x.of(0, 6), 1);
        x.thanks(0, 9);
        due("at 100, WELCOME -1", x.of(0, 6), 0);
        x.thanks(0, 999);
        x.soldier(1, 101);
        due("at 101, however WELCOME", x.of(0, 6), 0);
        terms("HIRED: as PERSON.");
        x = with("", HIRED, 0, 10);
        x.soldier(1, 101);
        due("at 101", x.of(0, 6), 1);
        x.thanks(0, 9);
        due("WELCOME -1", x.of(0, 6), 0);
    }

    /** What one of a KIND PRAYS. */
    private static int prays(int kind, int v, int thanks) {
        return with("", kind, v, thanks).of(0, 7);
    }

    private static void prayers() {
        terms("(so much; 0, if it is DEAD)");
        for (int kind = 0; kind < 7; kind++) {
            SevenUnwashed x = with("cold 0", kind, 5, 100);
            x.pass(1);
            due("alive, KIND " + kind, x.of(0, 7) > 0 ? 1 : 0, 1);
            x.kill(0, true);
            due("DEAD, KIND " + kind, x.of(0, 7) + x.told(7), 0);
        }
        terms("PERSON, GREEDY: the tenth (cut) of THANKS");
        int[] thanks = {0, 4, 5, 9, 10, 14, 15, 19, 20, 999};
        int[] tenth = {0, 0, 0, 0, 1, 1, 1, 1, 2, 99};
        int[] fifth = {0, 0, 1, 1, 2, 2, 3, 3, 4, 199};
        for (int i = 0; i < 10; i++) {
            due("PERSON at " + thanks[i], prays(PERSON, 7, thanks[i]), tenth[i]);
            due("GREEDY at " + thanks[i], prays(GREEDY, 7, thanks[i]), tenth[i]);
        }
        terms("DEVOUT: the fifth (cut) of THANKS");
        for (int i = 0; i < 10; i++) {
            due("DEVOUT at " + thanks[i], prays(DEVOUT, 7, thanks[i]), fifth[i]);
        }
        terms("FEARFUL: as PERSON, and, if it LETS him in, v more");
        for (int i = 0; i < 10; i++) {
            due("FEARFUL at " + thanks[i], prays(FEARFUL, 7, thanks[i]), tenth[i] + 7);
            SevenUnwashed x = with("", FEARFUL, 7, thanks[i]);
            x.soldier(1, 101);
            due("FEARFUL at SMELL 101", x.of(0, 7), tenth[i]);
        }
        SevenUnwashed shut = with("shut 20 p=0", FEARFUL, 7, 19);
        due("FEARFUL at WELCOME -1", shut.of(0, 7), 1);
        shut.thanks(0, 20);
        due("FEARFUL at WELCOME 0", shut.of(0, 7), 2 + 7);
        terms("FALSE: as DEVOUT, but 0 on DAYS that are multiples of (v + 2)");
        for (int v = 0; v <= 9; v++) {
            SevenUnwashed x = with("cold 0", FALSE, v, 0);
            for (int day = 0; day < 25; day++) {
                x.thanks(0, thanks[day % 10]);
                due("v " + v + ", DAY " + day, x.of(0, 7), day % (v + 2) == 0 ? 0 : fifth[day % 10]);
                x.pass(1);
            }
        }
        terms("HIRED: 3, if THANKS are above 0, else 0");
        due("0", prays(HIRED, 7, 0), 0);
        due("1", prays(HIRED, 7, 1), 3);
        due("999", prays(HIRED, 7, 999), 3);
        terms("TOLD: as GREEDY, and its ROW (four numbers 0 .. 9; 0 at first) at DAY modulo 4 more");
        SevenUnwashed x = with("cold 0", TOLD, 7, 999);
        for (int part = 0; part < 4; part++) {
            due("at first", x.row(0, part, part == 2 ? 0 : 9 - part), 0);
        }
        all("no part, below, above", NONE, x.row(0, 4, 0), x.row(0, -1, 0));
        all("below, above", BAD, x.row(0, 0, -1), x.row(0, 0, 10));
        int[] more = {9, 8, 0, 6};
        for (int day = 0; day < 13; day++) {
            x.thanks(0, 19);
            due("DAY " + day, x.of(0, 7), 1 + more[day % 4]);
            x.pass(1);
        }
        for (int i = 0; i < 10; i++) {
            due("without a ROW at " + thanks[i], prays(TOLD, 7, thanks[i]), tenth[i]);
        }
    }

    private static void gold() {
        int[] gold = {0, 1, 2, 3, 98, 99};
        int[] half = {0, 0, 1, 1, 49, 49};
        terms("PERSON, DEVOUT, FALSE: g.");
        for (int i = 0; i < 6; i++) {
            for (int kind : new int[] {PERSON, DEVOUT, FALSE}) {
                due("KIND " + kind + " for " + gold[i], with("", kind, 9, 5).of(0, 10 + gold[i]), gold[i]);
            }
        }
        terms("FEARFUL, HIRED: the half (cut) of g");
        for (int i = 0; i < 6; i++) {
            for (int kind : new int[] {FEARFUL, HIRED}) {
                due("KIND " + kind + " for " + gold[i], with("", kind, 9, 5).of(0, 10 + gold[i]), half[i]);
            }
        }
        terms("GREEDY, TOLD: g, and v");
        for (int i = 0; i < 6; i++) {
            for (int kind : new int[] {GREEDY, TOLD}) {
                due("KIND " + kind + " for " + gold[i], with("", kind, 9, 5).of(0, 10 + gold[i]), gold[i] + 9);
                due("KIND " + kind + ", v 0", with("", kind, 0, 5).of(0, 10 + gold[i]), gold[i]);
            }
        }
    }

    private static void day() {
        terms("A DAY goes (none does, if he is gone)");
        SevenUnwashed x = with("cold 9;pocket 9;stink 9", PERSON, 0, 50);
        x.round(0);
        x.soldier(0, 0);
        due("pass", x.pass(1), STATE);
        due("DAY, HEALTH, SMELL", x.told(0) + x.told(1) + x.told(2), 0);
        due("THANKS, GOT", x.of(0, 2) * 100 + x.of(0, 3), 5000);
        due("on", x.on(5, 1) + x.on(5, 0), 0);
        x.soldier(0, 3);
        due("then one does", x.pass(1), 0);
        due("and no more", x.told(0) * 100 + x.told(2), 109);
        due("pass", x.pass(60), STATE);
        terms("by how all is ahead of it, PRAYERS are what all PRAY, together");
        x = with("cold 0;pocket 90;open 1 d=1", PERSON, 0, 9, DEVOUT, 0, 25, HIRED, 0, 1, PERSON, 0, 99);
        x.kill(3, true);
        x.round(0);
        x.round(2);
        due("DAY 0: 0, 5 and 3", x.pass(1), 58);
        due("DAY 1: 9, 4 and 0, as HIRED has no THANKS yet", x.pass(1), 71);
        due("DAY 2: 9, 4 and 3", x.pass(1), 87);
        terms("HARM is COLD less how many LET him in (0 at least)");
        x = with("cold 3", PERSON, 0, 0, PERSON, 0, 0, PERSON, 0, 0, PERSON, 0, 0);
        due("3 less 4", x.pass(1), 50);
        x.kill(0, true);
        due("3 less 3", x.pass(1), 50);
        x.kill(1, true);
        due("3 less 2", x.pass(1), 49);
        x.soldier(1, 10);
        due("3 less 0", x.pass(1), 46);
        terms("whose place is DAY modulo how many there are in it (nobody, if it is empty or that one is DEAD)");
        x = with("cold 0;pocket 1", PERSON, 0, 0, PERSON, 0, 0, PERSON, 0, 0);
        x.pass(1);
        all("empty", 0, x.of(0, 3), x.of(1, 3), x.of(2, 3));
        x.round(2);
        x.round(0);
        x.round(2);
        x.pass(1);
        due("DAY 1", x.of(0, 3) * 100 + x.of(1, 3) * 10 + x.of(2, 3), 100);
        x.pass(1);
        due("DAY 2", x.of(0, 3) * 100 + x.of(1, 3) * 10 + x.of(2, 3), 101);
        x.pass(1);
        due("DAY 3", x.of(0, 3) * 100 + x.of(1, 3) * 10 + x.of(2, 3), 102);
        x.kill(0, true);
        x.pass(1);
        due("DAY 4: it is DEAD", x.of(0, 3) * 100 + x.of(1, 3) * 10 + x.of(2, 3), 102);
        due("nor has it THANKS", x.of(0, 2), 0);
        x.round(1);
        x.pass(2);
        due("DAY 6 of four places", x.of(0, 3) * 100 + x.of(1, 3) * 10 + x.of(2, 3), 103);
        x.pass(1);
        due("DAY 7", x.of(0, 3) * 100 + x.of(1, 3) * 10 + x.of(2, 3), 113);
    }

    private static void dayEnds() {
        terms("GOT is POCKET more (99999 at most)");
        SevenUnwashed x = with("cold 0;pocket 99", HIRED, 0, 0);
        x.round(0);
        days(x, 1009);
        due("99 each DAY", x.of(0, 3), 99891);
        x.pass(1);
        due("99990", x.of(0, 3), 99990);
        land(x, "cold 0;pocket 9");
        due("9 more on", x.on(1, 20), 99999);
        land(x, "cold 0;pocket 10");
        due("10 more on", x.on(1, 20), 99999);
        land(x, "cold 0;pocket 8");
        x.pass(1);
        due("8 more", x.of(0, 3), 99998);
        terms("THANKS what it has for that more (999 at most); then THANKS of all are 1 less (0 at least)");
        x = with("cold 0;pocket 20", GREEDY, 4, 974, PERSON, 0, 2, PERSON, 0, 1, PERSON, 0, 0, PERSON, 0, 7);
        x.kill(4, true);
        x.round(0);
        x.pass(1);
        due("974 and 24, less 1", x.of(0, 2), 997);
        due("2 less 1", x.of(1, 2), 1);
        due("1 less 1", x.of(2, 2), 0);
        due("0", x.of(3, 2), 0);
        due("DEAD, too", x.of(4, 2), 6);
        x.thanks(0, 975);
        x.pass(1);
        due("975 and 24, less 1", x.of(0, 2), 998);
        x.thanks(0, 976);
        x.pass(1);
        due("976 and 24, cut, less 1", x.of(0, 2), 998);
        x.thanks(0, 999);
        x.pass(1);
        due("999 and 24, cut, less 1", x.of(0, 2), 998);
        due("GOT all the same", x.of(0, 3), 80);
        terms("HEALTH is PRAYERS more and HARM less (0 .. 999)");
        x = with("cold 14", PERSON, 0, 100, PERSON, 0, 0);
        int[] before = {1, 2, 3, 999};
        int[] then = {0, 0, 1, 997};
        for (int i = 0; i < 4; i++) {
            x.thanks(0, 100);
            x.soldier(0, before[i]);
            due("10 more, 12 less than " + before[i], x.pass(1), then[i]);
        }
        x = with("cold 3", PERSON, 0, 100, PERSON, 0, 0);
        int[] high = {988, 989, 990, 991, 999};
        for (int health : high) {
            x.thanks(0, 100);
            x.soldier(0, health);
            due("10 more, 1 less than " + health, x.pass(1), Math.min(999, health + 9));
        }
        terms("SMELL STINK more (999 at most)");
        x = with("cold 0;stink 50");
        int[] smells = {0, 948, 949, 950, 999};
        for (int smell : smells) {
            x.soldier(1, smell);
            x.pass(1);
            due("50 more than " + smell, x.told(2), Math.min(999, smell + 50));
        }
        terms("DAY is 1 more.");
        due("DAY", x.told(0), 5);
        x.pass(3);
        due("three more", x.told(0), 8);
        x.pass(0);
        due("none more", x.told(0), 8);
    }

    private static void asked() {
        terms("goes on from how all is (DAYS also beyond 9999), and changes nothing");
        SevenUnwashed x = with("cold 0;open 1 d=9;pocket 1;stink 0", FALSE, 0, 100, PERSON, 0, 0);
        days(x, 9998);
        x.round(1);
        x.soldier(0, 100);
        x.thanks(0, 100);
        due("60 go by", x.on(60, 21), 60);
        due("SMELL too", x.on(60, 1), 0);
        due("DAY 9999: as DAY 9, and no multiple of 2", x.on(2, 0), 100 + 0 + 19);
        due("DAY 10001 likewise", x.on(4, 0), 100 + 19 + 19);
        due("DAY 10009 is as DAY 9", x.on(11, 2), 3);
        due("DIES asks for them", x.dies(), NEVER);
        due("DAY stays", x.told(0), 9998);
        due("and one is left to pass", x.pass(2), STATE);
        due("one", x.pass(1), 100);
        due("none", x.pass(1), STATE);
        terms("N DAYS are so many, or fewer, if he is gone sooner");
        x = with("cold 10;stink 1;pocket 9", PERSON, 0, 0);
        x.round(0);
        x.kill(0, true);
        x.kill(0, false);
        x.thanks(0, 20);
        land(x, "cold 30;stink 1;pocket 9");
        due("two DAYS", x.on(2, 0), 0);
        due("SMELL stands", x.on(60, 1), 2);
        due("THANKS stand", x.on(60, 10), 36);
        due("GOT stands", x.on(60, 20), 18);
        due("MEAN stands", x.mean(60, 0), 36);
        x.pass(60);
        due("DAY stands", x.told(0), 2);
        terms("ON n DAYS (0 .. 60)");
        x = new SevenUnwashed();
        x.soldier(0, 301);
        all("below, above", BAD, x.on(-1, 0), x.on(61, 0));
        due("0", x.on(0, 0), 301);
        due("1", x.on(1, 0), 296);
        due("59", x.on(59, 0), 6);
        due("60", x.on(60, 0), 1);
        terms("behind how many DAYS (0 .. 99) he is gone (-5: not by then)");
        int[] healths = {0, 1, 5, 6, 490, 491, 495, 496, 999};
        int[] gone = {0, 1, 1, 2, 98, 99, 99, NEVER, NEVER};
        for (int i = 0; i < 9; i++) {
            x.soldier(0, healths[i]);
            due("of " + healths[i], x.dies(), gone[i]);
        }
        terms("WORST of n DAYS (0 .. 60): the least HEALTH behind 0, 1 .. n; behind how many first");
        x.soldier(0, 301);
        all("below, above", BAD, x.worst(-1, 0), x.worst(61, 0));
        due("of 60", x.worst(60, 0) * 100 + x.worst(60, 1), 160);
        due("of 59", x.worst(59, 0) * 100 + x.worst(59, 1), 659);
        due("of 0", x.worst(0, 0) * 100 + x.worst(0, 1), 30100);
        x.soldier(0, 0);
        due("0 from now on", x.worst(60, 0) * 100 + x.worst(60, 1), 0);
        x.soldier(0, 11);
        due("0 from 3 on", x.worst(60, 0) * 100 + x.worst(60, 1), 3);
        x = with("cold 6", TOLD, 0, 0);
        int[] rows = {0, 9, 1, 7};
        for (int part = 0; part < 4; part++) {
            x.row(0, part, rows[part]);
        }
        due("50, 45, 49, 45, 47, 42 ..", x.worst(4, 0) * 100 + x.worst(4, 1), 4501);
    }

    /** HEALTH behind n DAYS, were this the ROUND. */
    private static int wellBy(SevenUnwashed x, int n, int... round) {
        x.image();
        x.round(-1);
        for (int person : round) {
            x.round(person);
        }
        int health = x.on(n, 0);
        x.undo();
        return health;
    }

    /** AIM as the document tells it, were WELL behind n DAYS. */
    private static int bestAim(SevenUnwashed x, int n) {
        int best = NEVER;
        int well = -1;
        for (int person = 0; person < x.count(0); person++) {
            int health = wellBy(x, n, person);
            if (health > well) {
                well = health;
                best = person;
            }
        }
        return best;
    }

    /** SWAP likewise. */
    private static int bestSwap(SevenUnwashed x, int n, int... round) {
        int well = wellBy(x, n, round);
        int best = NEVER;
        for (int i = 0; i < round.length; i++) {
            for (int j = i + 1; j < round.length; j++) {
                int[] other = round.clone();
                other[i] = round[j];
                other[j] = round[i];
                int health = wellBy(x, n, other);
                if (health > well) {
                    well = health;
                    best = 10 * i + j;
                }
            }
        }
        return best;
    }

    private static void aims() {
        terms("WELL is HEALTH behind 40 DAYS");
        int[] otherAims = new int[2];
        int[] otherSwaps = new int[2];
        for (int pocket = 0; pocket < 18; pocket++) {
            for (int cold = 2; cold <= 9; cold++) {
                SevenUnwashed x = with("pocket " + pocket + ";cold " + cold, GREEDY, 2, 0, DEVOUT, 0, 0, FALSE, 3, 0, FEARFUL, 1, 3);
                x.soldier(0, 300);
                int[] round = {cold % 4, 2, 1, 3, 3};
                for (int person : round) {
                    x.round(person);
                }
                int aim = x.aim();
                int swap = x.swap();
                due("POCKET " + pocket + ", COLD " + cold + ": aim", aim, bestAim(x, 40));
                due("POCKET " + pocket + ", COLD " + cold + ": swap", swap, bestSwap(x, 40, round));
                for (int i = 0; i < 2; i++) {
                    otherAims[i] += aim != bestAim(x, 39 + 2 * i) ? 1 : 0;
                    otherSwaps[i] += swap != bestSwap(x, 39 + 2 * i, round) ? 1 : 0;
                }
            }
        }
        all("behind 39, 41 it would be otherwise", 1, otherAims[0] > 0 ? 1 : 0, otherAims[1] > 0 ? 1 : 0,
            otherSwaps[0] > 0 ? 1 : 0, otherSwaps[1] > 0 ? 1 : 0);
        terms("so that WELL is greatest (of several the first; -5: nobody is there)");
        SevenUnwashed x = new SevenUnwashed();
        due("nobody", x.aim(), NEVER);
        x = with("cold 0;pocket 2", PERSON, 0, 0, DEVOUT, 0, 0, DEVOUT, 0, 0);
        due("of two the first", x.aim(), 1);
        x.soldier(0, 999);
        due("of three alike the first", x.aim(), 0);
        x.soldier(0, 0);
        due("gone: the first", x.aim(), 0);
        terms("if greater than it is (10 times the lesser and the greater; of several the first; -5: none)");
        x = with("pocket 5", PERSON, 0, 0, DEVOUT, 0, 0);
        due("no ROUND", x.swap(), NEVER);
        x.round(0);
        due("one place", x.swap(), NEVER);
        x.round(0);
        due("alike", x.swap(), NEVER);
        x.round(-1);
        for (int person : new int[] {1, 1, 1, 1, 0, 1}) {
            x.round(person);
        }
        due("4 and 5", x.swap(), 45);
        x.soldier(0, 999);
        land(x, "cold 0");
        due("not greater", x.swap(), NEVER);
        x.soldier(0, 0);
        due("gone", x.swap(), NEVER);
        x = with("cold 0;pocket 60", PERSON, 0, 0, DEVOUT, 0, 0);
        for (int person : new int[] {0, 1, 1, 1, 1, 1}) {
            x.round(person);
        }
        x.soldier(0, 500);
        due("that cut at 999 are alike: the first", x.swap(), bestSwap(x, 40, 0, 1, 1, 1, 1, 1));
    }

    private static void enough() {
        terms("ENOUGH of n DAYS (1 .. 20): the least number (0 .. 40) by which, were it POCKET, he is not gone behind n (-5: none)");
        SevenUnwashed x = with("pocket 99;stink 0", PERSON, 0, 1);
        all("below, above", BAD, x.enough(0), x.enough(21));
        x.round(0);
        x.soldier(0, 5);
        due("40 THANKS it must be", x.enough(2), 40);
        due("for one DAY none", x.enough(1), 0);
        x.thanks(0, 0);
        due("41 are too many", x.enough(2), NEVER);
        x.thanks(0, 2);
        due("39", x.enough(2), 39);
        x.soldier(0, 1);
        x.thanks(0, 40);
        due("1", x.enough(2), 1);
        x.thanks(0, 41);
        due("0", x.enough(2), 0);
        x = new SevenUnwashed();
        x.soldier(0, 101);
        due("1 is left behind 20", x.enough(20), 0);
        x.soldier(0, 100);
        due("0 is left behind 20", x.enough(20), NEVER);
        due("5 are left behind 19", x.enough(19), 0);
        x.soldier(0, 0);
        due("gone now", x.enough(1), NEVER);
        terms("BEARS of n DAYS (1 .. 20): the greatest number (0 .. 40) by which, were it COLD, he is not gone behind n (-5: none)");
        x = with("cold 99");
        all("below, above", BAD, x.bears(0), x.bears(21));
        int[] healths = {0, 1, 20, 21, 40, 41, 800, 801, 821, 999};
        int[] most = {NEVER, 0, 0, 1, 1, 2, 39, 40, 40, 40};
        for (int i = 0; i < 10; i++) {
            x.soldier(0, healths[i]);
            due("20 DAYS with " + healths[i], x.bears(20), most[i]);
        }
        x.soldier(0, 40);
        due("one DAY with 40", x.bears(1), 39);
        x.soldier(0, 41);
        due("one DAY with 41", x.bears(1), 40);
        terms("WHOSE of n DAYS (1 .. 60): those, as bits, who are not DEAD");
        x = with("stink 0", PERSON, 0, 0, PERSON, 0, 0);
        x.kill(0, true);
        all("below, above", BAD, x.whose(0), x.whose(61));
        x.soldier(0, 300);
        due("60 DAYS", x.whose(60), 2);
        due("59 DAYS", x.whose(59), 0);
        x.soldier(0, 5);
        due("1 DAY", x.whose(1), 2);
        x.kill(0, false);
        due("that is not DEAD: 4 and less than 5", x.whose(1), 0);
        x.soldier(0, 4);
        due("each of two", x.whose(1), 3);
        terms("(0, if he is so as it is)");
        x.soldier(0, 3);
        due("3 less 3", x.whose(1), 0);
        x.soldier(0, 0);
        due("gone now", x.whose(1), 0);
    }

    private static void seen() {
        terms("SEEN told by hand: HEALTH (0 .. 999) behind n DAYS (0 .. 20) from now (5 at most)");
        SevenUnwashed x = with("", PERSON, 0, 0);
        all("below, above", BAD, x.see(-2, 0), x.see(1000, 0), x.see(0, -1), x.see(0, 21));
        due("0 and 0", x.see(0, 0), 1);
        due("999 and 20", x.see(999, 20), 2);
        due("there again", x.see(0, 0), 3);
        due("the fourth", x.see(5, 5), 4);
        due("the fifth", x.see(5, 5), 5);
        due("a sixth", x.see(5, 5), FULL);
        x = with("stink 0", HIRED, 0, 0);
        x.soldier(0, 90);
        x.see(10, 20);
        due("behind 20: 90 less 4 each DAY", x.was(0, 0), 1);
        x.see(-1, 0);
        x.see(x.on(1, 0), 1);
        due("behind 1", x.was(0, 1), 0);
        x.pass(2);
        due("from now: 2 DAYS later it is otherwise", x.was(0, 1), NEVER);
        terms("how many numbers (0 .. 40) there are by which, were that its THANKS now, all of SEEN is so; the least (-5: none)");
        x = with("", PERSON, 0, 77);
        due("all", x.was(0, 0) * 100 + x.was(0, 1), 4100);
        int[] healths = {45, 46, 47, 49, 50, 51};
        int[] many = {0, 10, 10, 10, 1, 0};
        int[] least = {NEVER, 0, 10, 30, 40, NEVER};
        for (int i = 0; i < 6; i++) {
            x.see(-1, 0);
            x.see(healths[i], 1);
            due("how many for " + healths[i], x.was(0, 0), many[i]);
            due("the least for " + healths[i], x.was(0, 1), least[i]);
        }
        x.see(-1, 0);
        x.see(47, 1);
        x.see(50, 0);
        x.see(44, 2);
        due("all three are so by 11 .. 19", x.was(0, 0) * 100 + x.was(0, 1), 911);
        x.see(45, 2);
        due("not all four by any", x.was(0, 0) * 100 + x.was(0, 1), NEVER);
        terms("how many numbers v (0 .. 9) there are by which, were that its v now, all of SEEN is so; the least (-5: none)");
        x = with("", FEARFUL, 4, 0);
        due("all", x.can(0, 0) * 100 + x.can(0, 1), 1000);
        for (int health = 45; health <= 56; health++) {
            x.see(-1, 0);
            x.see(health, 1);
            boolean is = health >= 46 && health <= 55;
            due("how many for " + health, x.can(0, 0), is ? 1 : 0);
            due("the least for " + health, x.can(0, 1), is ? health - 46 : NEVER);
        }
        due("v is as it was", x.of(0, 1), 4);
    }

    private static void odds() {
        terms("ODDS of n DAYS (0 .. 60)");
        SevenUnwashed x = with("stink 0", PERSON, 0, 0);
        all("below, above", NO, x.odds(-1, 0), x.odds(61, 0), x.odds(-1, 1), x.odds(61, 1));
        x.soldier(0, 300);
        due("behind 60", x.odds(60, 0), 0);
        due("behind 59", x.odds(59, 0), 1);
        x.soldier(0, 301);
        due("behind 60 with one more", x.odds(60, 0), 1);
        due("behind 0", x.odds(0, 0), 1);
        x.soldier(0, 0);
        due("gone", x.odds(0, 0) * 10 + x.odds(0, 1), 1);
        terms("if one of all, each alike likely, is DEAD from now on: how likely he is not gone behind n: a fraction in lowest terms (NO: nobody is there)");
        x = new SevenUnwashed();
        all("nobody", NO, x.odds(0, 0), x.odds(0, 1));
        int[] above = {1, 1, 2, 3, 4, 5};
        for (int all = 1; all <= 6; all++) {
            x = with("cold 9;stink 0", HIRED, 0, 0);
            x.thanks(0, 1);
            for (int i = 1; i < all; i++) {
                x.person(PERSON, 0, 0);
            }
            x.soldier(0, 9 - all - 2 + 1);
            due("all but the HIRED one of " + all + ", above", x.odds(1, 0), all == 1 ? 0 : above[all - 1]);
            due("below", x.odds(1, 1), all);
            x.kill(0, true);
            due("as it is, above", x.odds(1, 0), 0);
            due("as it is, below", x.odds(1, 1), 1);
        }
        x = with("cold 9;stink 0", HIRED, 0, 1, HIRED, 0, 1, PERSON, 0, 0, PERSON, 0, 0, PERSON, 0, 0, PERSON, 0, 0);
        x.soldier(0, 9 - 5 - 6 + 1);
        x.soldier(0, 1);
        land(x, "cold 12;stink 0");
        due("12 less 5 less 6 is 1: gone; 12 less 5 less 3 is 4", x.odds(1, 0), 0);
        x.soldier(0, 2);
        due("4 of 6 above", x.odds(1, 0), 2);
        due("4 of 6 below", x.odds(1, 1), 3);
        terms("MEAN of n DAYS (0 .. 60): THANKS of all behind n, together, by how many they are: a fraction in lowest terms (NO likewise)");
        x = new SevenUnwashed();
        all("nobody", NO, x.mean(0, 0), x.mean(0, 1));
        x = with("cold 0", PERSON, 0, 63);
        all("below, above", NO, x.mean(-1, 0), x.mean(61, 0), x.mean(-1, 1), x.mean(61, 1));
        due("behind 60", x.mean(60, 0), 3);
        due("behind 0", x.mean(0, 0), 63);
        int[] tops = {0, 1, 2, 3, 4, 5, 6, 7, 8, 9, 10, 12, 999};
        int[] byFour = {0, 1, 1, 3, 1, 5, 3, 7, 2, 9, 5, 3, 999};
        int[] fours = {1, 4, 2, 4, 1, 4, 2, 4, 1, 4, 2, 1, 4};
        x = with("cold 0", PERSON, 0, 0, PERSON, 0, 0, PERSON, 0, 0, PERSON, 0, 0);
        x.kill(3, true);
        for (int i = 0; i < 13; i++) {
            x.thanks(3, tops[i]);
            due(tops[i] + " by 4, above", x.mean(0, 0), byFour[i]);
            due(tops[i] + " by 4, below", x.mean(0, 1), fours[i]);
        }
        x = with("cold 0", PERSON, 0, 999, PERSON, 0, 999, PERSON, 0, 999, PERSON, 0, 999, PERSON, 0, 999, PERSON, 0, 999);
        due("999 in lowest terms", x.mean(0, 0) * 10 + x.mean(0, 1), 9991);
    }

    private static void byHand() {
        terms("A WINTER told by hand: what goes (0 a DAY, 1 one is DEAD,");
        SevenUnwashed w = with("cold 1;stink 30", PERSON, 0, 50, PERSON, 0, 50);
        w.winter(0, 0);
        w.winter(0, 1);
        due("two DAYS, in which nobody is DEAD: 10 and 8 more", w.gone(0) * 100 + w.gone(1), 6860);
        w.winter(2, 0);
        w.winter(3, 1);
        w.winter(0, 0);
        due("10 less, no SMELL, a DAY more", w.gone(0) * 100 + w.gone(1), 6630);
        w.winter(1, 1);
        w.winter(0, 0);
        due("one is DEAD: 4 more", w.gone(0) * 100 + w.gone(1), 7060);
        w.winter(1, 0);
        w.winter(0, 0);
        due("the other, too: 1 less", w.gone(0) * 100 + w.gone(1), 6990);
        terms("2 HEALTH is 10 less (0 at least), 3 SMELL is 0; 10 rows at most; 1, 2, 3 go also if he is gone");
        SevenUnwashed x = with("cold 1;stink 30", PERSON, 0, 50);
        int[] healths = {0, 9, 10, 11, 999};
        int[] less = {0, 0, 0, 1, 989};
        x.winter(2, 0);
        for (int i = 0; i < 5; i++) {
            x.soldier(0, healths[i]);
            due("10 less than " + healths[i], x.gone(0), less[i]);
        }
        x.soldier(0, 5);
        x.soldier(1, 77);
        x.winter(0, 0);
        due("gone: no DAY", x.gone(0) * 100 + x.gone(1), 77);
        x.winter(3, 0);
        due("gone: SMELL is 0 all the same", x.gone(1), 0);
        for (int i = 4; i <= 10; i++) {
            due("row " + i, x.winter(3, 0), i);
        }
        due("an eleventh", x.winter(3, 0), FULL);
        x.winter(-1, 0);
        x.soldier(0, 20);
        x.winter(1, 0);
        x.winter(0, 0);
        due("DEAD first: 1 less", x.gone(0), 19);
        x.kill(0, true);
        x.kill(0, false);
        x.winter(-1, 0);
        x.winter(0, 0);
        due("not DEAD: 5 more", x.gone(0), 25);
        terms("PEOPLE, THANKS (0 .. 999; 8 at most)");
        x = with("", PERSON, 0, 0);
        all("below, above", BAD, x.book(0, -1), x.book(0, 1000));
        all("nobody", NONE, x.book(1, 0), x.book(-2, 0));
        for (int i = 1; i <= 8; i++) {
            due("row " + i, x.book(0, i % 2 * 999), i);
        }
        due("a ninth", x.book(0, 0), FULL);
        terms("the number of the first of these rows by which it is otherwise now (-5: none)");
        x = with("cold 0", PERSON, 0, 5, PERSON, 0, 6);
        due("no rows", x.looked(), NEVER);
        for (int i = 0; i < 8; i++) {
            x.book(i % 2, 5 + i % 2);
        }
        due("none", x.looked(), NEVER);
        x.thanks(1, 7);
        due("1 and others", x.looked(), 1);
        x.thanks(0, 4);
        due("0 and others", x.looked(), 0);
        x.pass(1);
        due("now, a DAY later", x.looked(), 0);
        x.thanks(0, 5);
        due("1 is so again", x.looked(), NEVER);
        x.book(-1, 0);
        for (int i = 0; i < 8; i++) {
            x.book(0, i == 7 ? 6 : 5);
        }
        due("the last", x.looked(), 7);
    }

    private static void acts() {
        terms("ACTS of a PERSON with x (wrapping)");
        SevenUnwashed x = with("", PERSON, 3, 0, PERSON, 0, 0, FEARFUL, 0, 0, FALSE, 0, 0, HIRED, 0, 0, GREEDY, 0, 0);
        due("x + i", x.act(1, 0, MAX), MIN);
        due("opens(x) - v", x.act(0, 1, MIN), MAX - 2);
        due("prays(x) * 2", x.act(1, 2, (1 << 30) - 1), MIN);
        due("prays(x) * 2, below", x.act(1, 2, MIN), 2);
        due("x * 3", x.act(2, 0, 1 << 30), 2 - (1 << 30));
        due("-super.opens(x)", x.act(3, 0, MIN + 1), MAX - 3);
        due("-super.opens(x) of the least", x.act(3, 0, MIN - 3), MIN);
        due("x + 1", x.act(3, 1, MAX), (MAX - 2) ^ 6);
        due("x - i", x.act(4, 2, MIN + 3), 2 * (3 * MAX + 4));
        due("super.tells(x) + prays(1)", x.act(5, 2, (1 << 30) - 6), MIN + 4);
        x = with("", TOLD, 0, 0);
        due("super.prays(x) + super.opens(2)", x.act(0, 1, MAX), MIN + 1);
        terms("PERSON: 10 opens: x + i. 11 prays: opens(x) - v. 12 tells: prays(x) * 2.");
        x = with("", PERSON, 0, 0, PERSON, 4, 0);
        due("opens", x.act(1, 0, 7), 8);
        due("prays", x.act(1, 1, 7), 4);
        due("tells", x.act(1, 2, 7), 8);
        terms("the body of its KIND, or, if that has none, of the next KIND above that has one");
        x = with("", PERSON, 3, 0, DEVOUT, 4, 0, FEARFUL, 5, 0, GREEDY, 6, 0, FALSE, 7, 0, HIRED, 8, 0);
        int[][] answers = {{10, 11, 32, 13, -14, 35}, {7, 1, 27, 7, -20, 27}, {14, 2, 54, 12, -40, 24}};
        int[][] ran = {{1, 1, 2, 1, 2, 2}, {2, 3, 3, 2, 5, 3}, {3, 4, 4, 6, 6, 5}};
        for (int act = 0; act < 3; act++) {
            for (int kind = 0; kind < 6; kind++) {
                due("act " + act + " of KIND " + kind, x.act(kind, act, 10), answers[act][kind]);
                due("how many bodies", x.count(7), ran[act][kind]);
            }
        }
        x = with("", PERSON, 0, 0, TOLD, 9, 0);
        due("TOLD opens", x.act(1, 0, 10), (10 + 1) ^ 9);
        due("TOLD opens to 14", x.act(1, 0, 14), (14 + 1) ^ 9);
        due("TOLD prays", x.act(1, 1, 10), -4);
        due("TOLD tells", x.act(1, 2, 10), -3);
        terms("super.opens(..): so from the KIND above the body's on");
        x = with("", HIRED, 1, 0, FALSE, 1, 0);
        due("HIRED opens by FEARFUL's body", x.act(0, 0, 7), 21);
        due("and by PERSON's", x.trace(0) * 100 + x.trace(1), 3010);
        due("FALSE prays by DEVOUT's, opens by its own", x.act(1, 1, 7), (-(8 + 1) - 1) ^ 6);
        due("the bodies", x.trace(0) * 1000000L + x.trace(1) * 10000 + x.trace(2) * 100 + x.trace(3), 51201150);
        terms("all that stands in a body is done from the left on");
        x = with("", TOLD, 9, 0);
        x.act(0, 2, 10);
        int[] bodies = {40, 12, 70, 11, 71, 10, 10, 70, 11, 71, 10, 10, NONE};
        for (int i = 0; i < 13; i++) {
            due("body " + i, x.trace(i), bodies[i]);
        }
        terms("the numbers of the bodies that ran in the latest act(), as they began; the first 20 are kept");
        for (int kind = 0; kind < 7; kind++) {
            for (int act = 0; act < 3; act++) {
                x = with("", kind, 1, 0);
                x.act(0, 2, 99);
                x.act(0, act, 5);
                due("of the latest alone, and all are kept, as no act has 20", x.count(7) <= 12 ? 1 : 0, 1);
                due("the last is there", x.trace(x.count(7) - 1) > 0 ? 1 : 0, 1);
                all("behind it", NONE, x.trace(x.count(7)), x.trace(19), x.trace(20));
            }
        }
    }

    private static void image() {
        terms("PEOPLE with all that is theirs, THE SOLDIER, THE ROUND, DAY, SEEN, the WINTER, the BOOK, which LAND holds");
        String[] changes = {"person 6 1 1", "thanks 0 500", "kill 1 1", "kill 4 0", "row 2 1 9", "soldier 0 77", "soldier 1 7",
            "round 1", "round -1", "pass 1", "see 5 5", "see -1 0", "winter 3 0", "winter -1 0", "book 1 1", "book -1 0"};
        for (String change : changes) {
            SevenUnwashed x = some();
            x.image();
            String[] words = change.split(" ");
            long[] arguments = new long[words.length - 1];
            for (int i = 0; i < arguments.length; i++) {
                arguments[i] = Long.parseLong(words[i + 1]);
            }
            due(change + " goes", call(x, words[0], arguments) > -1 ? 1 : 0, 1);
            due(change + ": undo()", x.undo(), 5);
            SevenUnwashed y = some();
            y.image();
            same(change + ": all is as it was", whole(x), whole(y));
        }
        SevenUnwashed x = full();
        SevenUnwashed y = full();
        for (int i = 0; i < 9; i++) {
            x.see(-1, 0);
            x.winter(-1, 0);
            x.book(-1, 0);
            x.round(-1);
            for (int k = 0; k < i; k++) {
                x.see(900 + i, i);
                x.winter(3 - i % 3, 1);
                x.book(1, 900 + i);
                x.round(i % 6);
            }
            x.pass(5);
            x.row(2, i % 4, i);
            due("all of it is told anew", x.undo(), 6);
        }
        x.row(2, 1, 6);
        same("all that is told by hand is as it was", whole(x), whole(y));
        x = some();
        x.image();
        x.land();
        land(x, "cold 99;pocket 98;stink 97");
        due("another holds", x.told(3), 99);
        x.undo();
        due("the LAND that held holds", x.told(3) * 10000 + x.told(4) * 100 + x.told(5), 61001);
        due("LANDS stay", x.count(1), 3);
        feed(x, "op");
        x.tape(0, 1, 1);
        x.act(0, 0, 0);
        x.undo();
        due("THE TEXT stays", x.count(6), 2);
        due("TAPES stay", x.read(0, 1), NO);
        due("THE TRACE stays", x.count(7) * 100 + x.trace(0), 110);
    }

    private static void tapes() {
        terms("TAPES 0 .. 5 hold nothing (at first), or a row of 0 bytes, 1 shorts, 2 ints, 3 longs, 4 booleans (items 0, 1)");
        SevenUnwashed x = new SevenUnwashed();
        long[] least = {-128, -32768, MIN, Long.MIN_VALUE, 1};
        long[] most = {127, 32767, MAX, Long.MAX_VALUE, 1};
        for (int tape = 0; tape < 6; tape++) {
            due("nothing at first", x.item(tape, 0, 0), NOTHING);
            int sort = tape % 5;
            x.tape(tape, sort, 2);
            x.item(tape, 0, least[sort]);
            x.item(tape, 1, most[sort]);
            due("the least, sort " + sort, x.read(tape, 0), least[sort]);
            due("the most, sort " + sort, x.read(tape, 1), most[sort]);
            x.item(tape, 0, least[sort] - 1);
            x.item(tape, 1, most[sort] + 1);
            due("1 below the least, sort " + sort, x.read(tape, 0), sort == 4 ? 0 : most[sort]);
            due("1 above the most, sort " + sort, x.read(tape, 1), sort == 4 ? 1 : least[sort]);
        }
        all("no such TAPES", NONE, x.item(-1, 0, 0), x.item(6, 0, 0));
        terms("the first that is otherwise; -5: none, or there is none to look at");
        x = new SevenUnwashed();
        x.tape(0, SHORTS, 3);
        due("none to look at", x.judge(0, 0), NEVER);
        x.person(PERSON, 0, 7);
        x.person(PERSON, 0, 0);
        x.person(PERSON, 0, 999);
        due("0 is", x.judge(0, 0), 0);
        x.item(0, 0, 7);
        due("2 is", x.judge(0, 0), 2);
        x.item(0, 2, 999);
        due("none", x.judge(0, 0), NEVER);
        x.item(0, 1, 1);
        due("1 is", x.judge(0, 0), 1);
        terms("100 and how many were looked at, if the row ends ahead of that (or the place is below 0, or the TAPE holds nothing)");
        x.item(0, 1, 0);
        x.tape(1, SHORTS, 5);
        x.shift(0, 0, 1, 2, 3);
        due("the row ends with it", x.judge(1, 2), NEVER);
        x.tape(1, SHORTS, 4);
        x.shift(0, 0, 1, 2, 2);
        due("ahead of it", x.judge(1, 2), 102);
        x.shift(0, 0, 1, 3, 1);
        due("farther ahead", x.judge(1, 3), 101);
        all("at its end, beyond, below 0", 100, x.judge(1, 4), x.judge(1, 5), x.judge(1, MAX), x.judge(1, -1), x.judge(1, MIN));
        x.tape(1, SHORTS, 0);
        due("a row of none", x.judge(1, 0), 100);
        x.tape(1, -1, 0);
        all("nothing there", 100, x.judge(1, 0), x.judge(5, 3));
        terms("NOTHING (-11): nothing is there; CAST (-12): another sort or KIND; PLACE (-13): no such place; SIZE (-14): a size below 0.");
        due("NOTHING", x.item(5, 0, 0), -11);
        x.tape(5, INTS, 1);
        due("CAST: another sort", x.shift(0, 0, 5, 0, 1), -12);
        due("CAST: another KIND", x.taken(0, 1), -12);
        due("PLACE", x.item(5, 1, 0), -13);
        due("SIZE", x.tape(5, 1, -1), -14);
        terms("Answers: NONE (-1) no such number; BAD (-2) a number is not as told; STATE (-3) as told; FULL (-4)");
        due("NONE", x.person(7, 0, 0), -1);
        due("BAD", x.person(0, 10, 0), -2);
        due("STATE", x.undo(), -3);
        days(x, 0);
        for (int i = 0; i < 6; i++) {
            x.person(0, 0, 0);
        }
        due("FULL", x.person(0, 0, 0), -4);
        terms("the first that a call's words name");
        all("NONE ahead of all", NONE, x.person(7, 10, 1000), x.row(0, 4, 10), x.soldier(2, 1000), x.on(61, 3), x.worst(61, 2),
            x.winter(4, 9), x.book(9, 1000), x.tape(6, 9, 99), x.item(6, 99, 0), x.shift(6, -1, 0, -1, -1), x.thanks(6, 1000));
        all("BAD ahead of others", BAD, x.person(0, 10, 0), x.row(0, 0, 10), x.tape(0, 9, -1), x.taken(9, 9));
        x.soldier(0, 0);
        due("BAD ahead of STATE", x.pass(61), BAD);
        due("NOTHING ahead of CAST and PLACE", x.shift(4, -1, 5, -1, -1), NOTHING);
        due("CAST ahead of PLACE", x.shift(0, -1, 5, -1, -1), CAST);
        terms("`NO = Long.MIN_VALUE`: There is no such number.");
        due("NO", SevenUnwashed.NO, Long.MIN_VALUE);
        due("read", x.read(4, 0), Long.MIN_VALUE);
    }

    private static void untouched() {
        terms("What is answered so changes nothing; what is asked changes nothing.");
        String[] asked = {"of 2 7", "of 0 5", "of 3 60", "told 6", "told 7", "told 12", "on 60 0", "on 9 2", "on 30 12", "on 30 22", "dies",
            "worst 60 0", "worst 60 1", "aim", "swap", "enough 20", "bears 20", "whose 60", "was 1 0", "was 1 1", "can 3 0", "can 3 1",
            "odds 60 0", "odds 60 1", "mean 60 0", "mean 60 1", "gone 0", "gone 1", "looked", "judge 1 0", "judge 1 3", "trace 2",
            "taken 2 3", "count 7", "read 3 3"};
        for (String ask : asked) {
            String[] words = ask.split(" ");
            long[] arguments = new long[words.length - 1];
            for (int i = 0; i < arguments.length; i++) {
                arguments[i] = Long.parseLong(words[i + 1]);
            }
            SevenUnwashed x = some();
            long first = call(x, words[0], arguments);
            due(ask + ", again", call(x, words[0], arguments), first);
            stillOf(x, whole(some()), words[0], first, arguments);
            x = full();
            first = call(x, words[0], arguments);
            stillOf(x, whole(full()), words[0], first, arguments);
        }
        says("What it is", "An object is used for at most 512 calls after it has been made");
        SevenUnwashed x = some();
        SevenUnwashed y = some();
        for (int i = 0; i < 60; i++) {
            y.person(6, 1, 1);
            y.round(-1);
            y.pass(1);
            y.land();
            y.soldier(0, 9);
        }
        same("another object's calls are nothing to it", whole(x), whole(some()));
    }

    public static void main(String[] args) throws Exception {
        read(args[0]);
        people();
        soldier();
        text();
        expressions();
        lands();
        letters();
        welcome();
        prayers();
        gold();
        day();
        dayEnds();
        asked();
        aims();
        enough();
        seen();
        odds();
        byHand();
        acts();
        image();
        tapes();
        untouched();
        quotedAll("Terms", "\\d+ \\.\\. \\d+|\\w+ at most|\\w+ at least|\\(cut\\)|\\(wrapping\\)|-\\d+\\)?:|above \\d+|below 0|modulo \\d+"
            + "|\\d without|of several the first|are kept|at first|\\b(NO|NONE|BAD|STATE|FULL)\\b");
        endSentences();
    }
}
