/** The sentences of the promises 1 to 40 that name a bound or a refusal, each by a test of its own. */
public final class AnswersTest extends Sentences {
    /** Numbers that are far from any that is told. */
    private static final int[] FAR = {MIN, MIN + 1, -100, 100000, MAX - 1, MAX};

    private static void people() {
        says(1, "Nobody, no LAND.");
        SevenUnwashed x = new SevenUnwashed();
        all("nobody", 0, x.count(0), x.told(6), x.told(7));
        due("nobody to ask for", x.of(0, 0), OF_NONE);
        due("no LAND", x.count(1), 0);
        due("the first LAND", land(x, "cold 1"), 0);
        says(2, "NONE: kind; BAD: v, thanks; FULL: 6.");
        for (int far : FAR) {
            still("person", NONE, far, 0, 0);
            still("person", BAD, 0, far, 0);
            still("person", BAD, 0, 0, far);
        }
        for (int kind : new int[] {-1, 7}) {
            still("person", NONE, kind, 10, 1000);
            stillFull("person", NONE, kind, 0, 0);
        }
        for (int v : new int[] {-1, 10}) {
            still("person", BAD, 6, v, 999);
            stillFull("person", BAD, 0, v, 0);
        }
        for (int thanks : new int[] {-1, 1000}) {
            still("person", BAD, 0, 9, thanks);
            stillFull("person", BAD, 0, 0, thanks);
        }
        stillFull("person", FULL, 0, 0, 0);
        stillFull("person", FULL, 6, 9, 999);
        due("the sixth", some().person(6, 9, 999), 5);
        due("the sixth, of the least", some().person(0, 0, 0), 5);
        says(3, "10 and g THANKS it has for g gold (0 .. 99). -10001: NONE.");
        still("of", 9, 2, 3);
        still("of", 5, 2, 10);
        still("of", 104, 2, 109);
        still("of", 49, 3, 109);
        for (int what : new int[] {-1, 8, 9, 110, MIN, MAX, -10, MIN + 10, MAX - 10}) {
            still("of", OF_NONE, 2, what);
        }
        for (int person : new int[] {-1, 5, 6, MIN, MAX}) {
            still("of", OF_NONE, person, 0);
            still("of", OF_NONE, person, 5);
            still("of", OF_NONE, person, 10);
        }
        stillFull("of", OF_NONE, 6, 0);
        stillFull("of", 5, 5, 0);
    }

    private static void changed() {
        says(4, "THANKS of a PERSON become n: what they were. NONE; BAD.");
        for (int person : new int[] {-1, 5, 6, MIN, MAX}) {
            still("thanks", NONE, person, 0);
            still("thanks", NONE, person, 1000);
        }
        for (int n : new int[] {-1, 1000, MIN, MAX}) {
            still("thanks", BAD, 4, n);
        }
        SevenUnwashed x = some();
        due("what they were", x.thanks(0, 999), 33);
        due("likewise", x.thanks(0, 0), 999);
        due("n", x.of(0, 2), 0);
        due("another's", x.of(3, 2) + x.of(1, 2), 12 + 34);
        says(5, "A PERSON is DEAD, or not: whether it was. NONE.");
        for (int person : new int[] {-1, 5, 6, MIN, MAX}) {
            still("kill", NONE, person, 1);
            still("kill", NONE, person, 0);
        }
        stillFull("kill", NONE, 6, 1);
        still("kill", 1, 4, 1);
        still("kill", 0, 0, 0);
        due("the last one", full().kill(5, true), 0);
        says(6, "becomes n (0 .. 9) for DAYS modulo 4 being part: what it was. NONE: person, part; BAD; STATE: another KIND.");
        for (int person : new int[] {-1, 5, 6, MIN, MAX}) {
            still("row", NONE, person, 0, 0);
        }
        for (int part : new int[] {-1, 4, MIN, MAX}) {
            still("row", NONE, 2, part, 0);
            still("row", NONE, 0, part, 10);
        }
        for (int n : new int[] {-1, 10, MIN, MAX}) {
            still("row", BAD, 2, 3, n);
            still("row", BAD, 0, 3, n);
        }
        for (int person : new int[] {0, 1, 3, 4}) {
            still("row", STATE, person, 0, 0);
            still("row", STATE, person, 3, 9);
        }
        stillFull("row", STATE, 5, 0, 5);
        x = some();
        for (int part = 0; part < 4; part++) {
            due("what it was", x.row(2, part, 9 * (part % 2)), 3 + part);
            due("what it is now", x.row(2, part, 9 - part), 9 * (part % 2));
        }
        says(7, "NONE; BAD.");
        for (int far : FAR) {
            still("soldier", NONE, far, 0);
            still("soldier", BAD, 0, far);
            still("soldier", BAD, 1, far);
        }
        for (int beside : new int[] {-1, 2}) {
            still("soldier", NONE, beside, 0);
            still("soldier", NONE, beside, 1000);
        }
        for (int what = 0; what < 2; what++) {
            still("soldier", BAD, what, -1);
            still("soldier", BAD, what, 1000);
            x = some();
            int before = x.told(1 + what);
            due("what it was", x.soldier(what, 999), before);
            due("likewise", x.soldier(what, 0), 999);
            due("n", x.told(1 + what), 0);
            due("the other", x.soldier(1 - what, 5), what == 0 ? 55 : some().told(1));
        }
        says(8, "A PERSON comes behind all others in THE ROUND: how many there are (-1: it is empty then, 0). NONE; FULL: 6.");
        for (int person : new int[] {-2, 5, 6, MIN, MAX}) {
            still("round", NONE, person);
        }
        for (int person : new int[] {-2, 6, MIN, MAX}) {
            stillFull("round", NONE, person);
        }
        for (int person = 0; person < 6; person++) {
            stillFull("round", FULL, person);
        }
        x = full();
        due("-1", x.round(-1), 0);
        due("it is empty", x.count(2), 0);
        due("-1 again", x.round(-1), 0);
        all("no places", NONE, x.told(10), x.told(15));
        for (int i = 1; i <= 6; i++) {
            due("as before", x.round(6 - i), i);
            due("behind all others", x.told(9 + i), 6 - i);
        }
    }

    private static void texts() {
        says(9, "A sign (0 .. 127) comes behind THE TEXT's: how many it has. BAD; FULL.");
        for (int sign : new int[] {-1, 128, 255, 256, 65536 + 'e', MIN, MAX}) {
            still("feed", BAD, sign);
            stillFull("feed", BAD, sign);
        }
        stillFull("feed", FULL, 0);
        stillFull("feed", FULL, 127);
        stillFull("feed", FULL, '1');
        SevenUnwashed x = new SevenUnwashed();
        for (int sign = 0; sign < 100; sign++) {
            due("a sign", x.feed(sign), sign + 1);
        }
        due("one more", x.feed(0), FULL);
        due("100", x.count(6), 100);
        says(10, "THE TEXT, which is empty then, is a LAND, and holds: its number. FULL: there are 6 (THE TEXT stays); "
            + "-10 less the FAULT (the one that held holds).");
        stillFull("land", FULL);
        x = some();
        feed(x, "en 7 p=0");
        due("its number", x.land(), 2);
        due("THE TEXT is empty", x.count(6), 0);
        due("it holds", x.told(3), 5);
        x = some();
        int before = x.of(2, 5);
        due("\"op\"", x.land(), -12);
        due("THE TEXT is empty all the same", x.count(6), 0);
        due("the LAND that held holds", x.told(3) * 1000 + x.of(2, 5), 6000 + before);
        due("no LAND comes", x.count(1), 2);
        due("nothing", x.land(), -10);
        due("the next is as if that had not been", land(x, "cold 8"), 2);
        due("a FAULT behind whole CLAUSES", land(x, "cold 9;pocket 9;stink 9;open 50 !p=0&!p=9;x"), -52);
        due("the LAND that held holds", x.told(3), 8);
        due("the next", land(x, "open 1 p=1"), 3);
        due("has no CLAUSES of that", x.told(3) * 10000 + x.told(4) * 100 + x.told(5), 51001);
        due("nor doors", x.of(2, 5) - x.of(2, 2) + x.told(2) / 10, 0);
        due("its own alone", x.of(1, 5) - x.of(1, 2) + x.told(2) / 10, 1);
        for (int i = 4; i < 6; i++) {
            due("another", land(x, "cold 1"), i);
        }
        feed(x, "x");
        due("FULL ahead of the FAULT", x.land(), FULL);
        due("it stays", x.count(6), 1);
        x = new SevenUnwashed();
        feed(x, "open 1 p=1" + "|p=1".repeat(22) + "|");
        x.feed('p');
        due("a FAULT at the end of 100", x.land(), -110);
        due("the object is as it was", x.told(3), 5);
        says(11, "10 and k who is at place k of THE ROUND. NONE.");
        for (int what : new int[] {-1, 8, 9, 14, 15, 16, MIN, MAX, MIN + 10, -10}) {
            still("told", NONE, what);
        }
        still("told", 4, 10);
        still("told", 3, 13);
        stillFull("told", 0, 15);
        stillFull("told", NONE, 16);
    }

    private static void days() {
        says(12, "n DAYS (0 .. 60) go: HEALTH then. BAD; STATE: he is gone now, or DAY and n are above 9999.");
        for (int n : new int[] {-1, 61, MIN, MAX}) {
            still("pass", BAD, n);
        }
        still("pass", some().told(1), 0);
        SevenUnwashed x = some();
        int sixty = x.on(60, 0);
        due("60", x.pass(60), sixty);
        x = some();
        x.soldier(0, 0);
        SevenUnwashed y = some();
        y.soldier(0, 0);
        stillOf(x, whole(y), "pass", STATE, 0);
        x = some();
        x.soldier(0, 0);
        due("gone", x.pass(60), STATE);
        due("BAD ahead of it", x.pass(61), BAD);
        x = with("cold 0");
        for (int i = 0; i < 166; i++) {
            x.pass(60);
        }
        all("9960 and more than 39", STATE, x.pass(40), x.pass(60));
        due("DAY", x.told(0), 9960);
        due("BAD ahead of it", x.pass(61), BAD);
        due("9960 and 39", x.pass(39), 50);
        due("DAY", x.told(0), 9999);
        due("9999 and 1", x.pass(1), STATE);
        due("9999 and 0", x.pass(0), 50);
        land(x, "cold 9");
        due("though he would be gone sooner", x.pass(60), STATE);
        says(13, "what 0 HEALTH, 1 SMELL, 2 who LETS him in, 10 and p THANKS, 20 and p GOT of PERSON p. NONE; BAD: n.");
        for (int what : new int[] {-1, 3, 9, 15, 16, 19, 25, 26, 30, MIN, MAX, MIN + 10, MIN + 20}) {
            still("on", NONE, 0, what);
            still("on", NONE, 61, what);
        }
        for (int n : new int[] {-1, 61, MIN, MAX}) {
            for (int what : new int[] {0, 1, 2, 10, 14, 20, 24}) {
                still("on", BAD, n, what);
            }
        }
        stillFull("on", NONE, 0, 16);
        stillFull("on", 9, 0, 15);
        stillFull("on", 0, 0, 25);
        still("on", 12, 0, 13);
        says(14, "DIES; -5.");
        x = new SevenUnwashed();
        x.soldier(0, 495);
        due("99", x.dies(), 99);
        x.soldier(0, 496);
        due("-5", x.dies(), NEVER);
        x.soldier(0, 0);
        due("0", x.dies(), 0);
        says(15, "NONE; BAD: n.");
        for (int what : new int[] {-1, 2, MIN, MAX}) {
            still("worst", NONE, 0, what);
            still("worst", NONE, 61, what);
        }
        for (int n : new int[] {-1, 61, MIN, MAX}) {
            still("worst", BAD, n, 0);
            still("worst", BAD, n, 1);
        }
        still("worst", 0, 0, 1);
        still("worst", some().told(1), 0, 0);
    }

    private static void best() {
        says(16, "AIM; -5.");
        SevenUnwashed x = new SevenUnwashed();
        due("nobody", x.aim(), NEVER);
        x.person(0, 0, 0);
        due("one", x.aim(), 0);
        x.kill(0, true);
        due("one who is DEAD is there", x.aim(), 0);
        says(17, "SWAP; -5.");
        due("no ROUND", x.swap(), NEVER);
        x.round(0);
        x.round(0);
        due("none is better", x.swap(), NEVER);
        says(18, "ENOUGH; -5. BAD.");
        for (int n : new int[] {-1, 0, 21, MIN, MAX}) {
            still("enough", BAD, n);
        }
        x = new SevenUnwashed();
        due("20", x.enough(9), 0);
        due("-5", x.enough(10), NEVER);
        due("1", x.enough(1), 0);
        due("20", x.enough(20), NEVER);
        says(19, "BEARS; -5. BAD.");
        for (int n : new int[] {-1, 0, 21, MIN, MAX}) {
            still("bears", BAD, n);
        }
        due("1", x.bears(1), 40);
        due("20", x.bears(20), 2);
        x.soldier(0, 0);
        due("-5", x.bears(1), NEVER);
        says(20, "WHOSE, as bits. BAD.");
        for (int n : new int[] {-1, 0, 61, MIN, MAX}) {
            still("whose", BAD, n);
        }
        x = with("cold 8;stink 0", PERSON, 0, 0, PERSON, 0, 0, PERSON, 0, 0, PERSON, 0, 0, PERSON, 0, 0, PERSON, 0, 0);
        x.soldier(0, 3);
        due("all six", x.whose(1), 63);
        x.kill(2, true);
        x.soldier(0, 4);
        due("all but the DEAD one", x.whose(1), 59);
        x.soldier(0, 181);
        due("60", x.whose(60), 59);
    }

    private static void seen() {
        says(21, "What is SEEN comes: how many there are (health -1: none then, 0, whatever the other is). BAD: health, n; FULL: 5.");
        for (int health : new int[] {-2, 1000, MIN, MAX}) {
            still("see", BAD, health, 0);
            stillFull("see", BAD, health, 0);
        }
        for (int n : new int[] {-1, 21, MIN, MAX}) {
            still("see", BAD, 0, n);
            stillFull("see", BAD, 999, n);
        }
        stillFull("see", FULL, 0, 0);
        stillFull("see", FULL, 999, 20);
        for (int other : new int[] {0, -1, 21, MIN, MAX}) {
            SevenUnwashed x = full();
            due("-1", x.see(-1, other), 0);
            due("none", x.count(3), 0);
            due("all is so", x.was(0, 0), 41);
            due("the first", x.see(0, 20), 1);
        }
        says(22, "WAS: what 0 how many, 1 the least; -5. NONE.");
        for (int person : new int[] {-1, 5, 6, MIN, MAX}) {
            still("was", NONE, person, 0);
        }
        for (int what : new int[] {-1, 2, MIN, MAX}) {
            still("was", NONE, 0, what);
        }
        stillFull("was", NONE, 6, 0);
        SevenUnwashed x = with("", PERSON, 0, 0);
        x.see(999, 0);
        due("none: how many", x.was(0, 0), 0);
        due("none: the least", x.was(0, 1), NEVER);
        says(23, "CAN: what 0 how many, 1 the least; -5. NONE.");
        for (int person : new int[] {-1, 5, 6, MIN, MAX}) {
            still("can", NONE, person, 0);
        }
        for (int what : new int[] {-1, 2, MIN, MAX}) {
            still("can", NONE, 0, what);
        }
        stillFull("can", NONE, 6, 0);
        due("none: how many", x.can(0, 0), 0);
        due("none: the least", x.can(0, 1), NEVER);
        says(24, "ODDS; part 0 above, 1 below the line. NO.");
        for (int n : new int[] {-1, 61, MIN, MAX}) {
            still("odds", NO, n, 0);
            still("odds", NO, n, 1);
        }
        for (int part : new int[] {-1, 2, MIN, MAX}) {
            still("odds", NO, 0, part);
        }
        all("nobody", NO, new SevenUnwashed().odds(0, 0), new SevenUnwashed().odds(0, 1));
        still("odds", 1, 0, 0);
        still("odds", 1, 0, 1);
        says(25, "MEAN; part likewise. NO.");
        for (int n : new int[] {-1, 61, MIN, MAX}) {
            still("mean", NO, n, 0);
            still("mean", NO, n, 1);
        }
        for (int part : new int[] {-1, 2, MIN, MAX}) {
            still("mean", NO, 0, part);
        }
        all("nobody", NO, new SevenUnwashed().mean(0, 0), new SevenUnwashed().mean(0, 1));
        still("mean", 5, 0, 1);
    }

    private static void byHand() {
        says(26, "how many there are (what -1: it is empty then, 0, whatever the other is). NONE: what (0 .. 3), person (by 1); FULL: 10.");
        for (int what : new int[] {-2, 4, MIN, MAX}) {
            still("winter", NONE, what, 0);
            stillFull("winter", NONE, what, 0);
        }
        for (int person : new int[] {-1, 5, 6, MIN, MAX}) {
            still("winter", NONE, 1, person);
        }
        stillFull("winter", NONE, 1, 6);
        stillFull("winter", NONE, 1, -1);
        for (int what = 0; what < 4; what++) {
            stillFull("winter", FULL, what, 5);
        }
        for (int other : new int[] {0, -1, 6, MIN, MAX}) {
            SevenUnwashed x = full();
            due("-1", x.winter(-1, other), 0);
            due("none", x.count(4), 0);
            due("nothing goes", x.gone(0), x.told(1));
            due("0", x.winter(0, other), 1);
            due("2", x.winter(2, other), 2);
            due("3", x.winter(3, other), 3);
            due("1", x.winter(1, 5), 4);
        }
        says(27, "GONE: what 0 HEALTH, 1 SMELL. NONE.");
        for (int what : new int[] {-1, 2, MIN, MAX}) {
            still("gone", NONE, what);
            stillFull("gone", NONE, what);
        }
        SevenUnwashed x = new SevenUnwashed();
        due("no WINTER", x.gone(0) * 10 + x.gone(1), 500);
        says(28, "how many there are (person -1: it is empty then, 0, whatever the other is). NONE; BAD: thanks; FULL: 8.");
        for (int person : new int[] {-2, 5, 6, MIN, MAX}) {
            still("book", NONE, person, 0);
            still("book", NONE, person, 1000);
        }
        for (int thanks : new int[] {-1, 1000, MIN, MAX}) {
            still("book", BAD, 0, thanks);
            stillFull("book", BAD, 0, thanks);
        }
        stillFull("book", NONE, 6, 0);
        stillFull("book", FULL, 0, 0);
        stillFull("book", FULL, 5, 999);
        for (int other : new int[] {0, -1, 1000, MIN, MAX}) {
            x = full();
            x.thanks(0, 3);
            due("-1", x.book(-1, other), 0);
            due("none", x.count(5), 0);
            due("nothing is otherwise", x.looked(), NEVER);
            due("the first", x.book(5, 999), 1);
        }
        says(29, "LOOKED at; -5.");
        due("no BOOK", new SevenUnwashed().looked(), NEVER);
        still("looked", 0);
        due("the row that is", x.looked(), 0);
        x.thanks(5, 999);
        due("none", x.looked(), NEVER);
    }

    private static void judged() {
        says(30, "JUDGED from place i of a TAPE on. NONE: tape; CAST: it is no row of shorts.");
        for (int tape : new int[] {-1, 6, MIN, MAX}) {
            still("judge", NONE, tape, 0);
            still("judge", NONE, tape, -1);
        }
        for (int tape : new int[] {0, 2, 3, 4}) {
            still("judge", CAST, tape, 0);
            still("judge", CAST, tape, -1);
            still("judge", CAST, tape, 4);
        }
        still("judge", 1, 1, 0);
        still("judge", 0, 1, 1);
        all("beyond, below 0", 100, some().judge(1, 4), some().judge(1, -1), some().judge(5, 0));
        SevenUnwashed x = new SevenUnwashed();
        x.tape(0, INTS, 1);
        due("nobody: a CAST all the same", x.judge(0, 0), CAST);
        all("nobody: none to look at", NEVER, x.judge(1, 0), x.judge(1, -1));
        says(31, "THE IMAGE is taken: how many PEOPLE there are.");
        due("nobody", x.image(), 0);
        x.person(0, 0, 0);
        x.kill(0, true);
        due("one, though DEAD", x.image(), 1);
        due("the newest is kept", x.undo() * 10 + x.of(0, 4), 11);
        due("six", full().image(), 6);
        says(32, "All is as THE IMAGE: how many PEOPLE. STATE: there is none.");
        x = with("", PERSON, 0, 0);
        due("none", x.undo(), STATE);
        due("nothing is changed", x.count(0), 1);
        x.image();
        x.person(0, 0, 0);
        all("again and again", 1, x.undo(), x.undo());
        says(33, "0, and no TRACE then: no such PERSON, act.");
        for (int person : new int[] {-1, 5, 6, MIN, MAX}) {
            noTrace(person, 0);
        }
        for (int act : new int[] {-1, 3, MIN, MAX}) {
            noTrace(2, act);
        }
        says(34, "THE TRACE's i-th body. NONE.");
        for (int i : new int[] {-1, 5, 19, 20, MIN, MAX}) {
            still("trace", NONE, i);
        }
        still("trace", 70, 0);
        still("trace", 10, 4);
        due("no act yet", new SevenUnwashed().trace(0), NONE);
        says(35, "A PERSON taken for one of KIND k (0 .. 6), or one under that: its KIND. BAD: k; NOTHING: no such PERSON; CAST.");
        for (int k : new int[] {-1, 7, MIN, MAX}) {
            still("taken", BAD, 0, k);
            still("taken", BAD, 5, k);
        }
        for (int person : new int[] {-1, 5, 6, MIN, MAX}) {
            still("taken", NOTHING, person, 0);
            still("taken", NOTHING, person, 6);
        }
        still("taken", CAST, 0, 4);
        still("taken", CAST, 4, 6);
        still("taken", 4, 1, 1);
        still("taken", 6, 2, 3);
        still("taken", 0, 4, 0);
    }

    private static void noTrace(int person, int act) {
        SevenUnwashed x = some();
        due("there was one", x.count(7), 5);
        due("act(" + person + ", " + act + ")", x.act(person, act, 7), 0);
        due("no TRACE", x.count(7), 0);
        due("no body", x.trace(0), NONE);
        SevenUnwashed y = some();
        x.act(2, 1, 5);
        y.act(2, 1, 5);
        same("nothing else is changed", whole(x), whole(y));
    }

    private static void tapes() {
        says(36, "How many: 0 PEOPLE, 1 LANDS, 2 of THE ROUND, 3 SEEN, 4 of the WINTER, 5 of the BOOK, 6 bytes of THE TEXT, "
            + "7 bodies that ran in the latest act() (all, kept or not). BAD.");
        int[] many = {5, 2, 4, 1, 4, 2, 2, 5};
        int[] most = {6, 6, 6, 5, 10, 8, 100, 5};
        for (int what = 0; what < 8; what++) {
            still("count", many[what], what);
            stillFull("count", most[what], what);
            due("none", new SevenUnwashed().count(what), 0);
        }
        for (int what : new int[] {-1, 8, MIN, MAX}) {
            still("count", BAD, what);
        }
        says(37, "(0 .. 60) of a sort, all 0, or holds nothing (sort -1: n does not matter): 1. NONE: tape; BAD: sort, n above 60; SIZE.");
        for (int tape : new int[] {-1, 6, MIN, MAX}) {
            still("tape", NONE, tape, 0, 1);
            still("tape", NONE, tape, -1, 0);
            still("tape", NONE, tape, 5, -1);
        }
        for (int sort : new int[] {-2, 5, MIN, MAX}) {
            still("tape", BAD, 1, sort, 1);
            still("tape", BAD, 1, sort, -1);
        }
        for (int n : new int[] {61, MAX}) {
            still("tape", BAD, 1, 1, n);
            still("tape", BAD, 5, 4, n);
        }
        for (int n : new int[] {-1, MIN}) {
            still("tape", SIZE, 1, 1, n);
            still("tape", SIZE, 5, 4, n);
        }
        for (int n : new int[] {0, -1, 61, MIN, MAX}) {
            still("tape", 1, 5, -1, n);
            SevenUnwashed x = some();
            due("-1", x.tape(1, -1, n), 1);
            due("nothing is there", x.item(1, 0, 0), NOTHING);
            due("nothing to read", x.read(1, 0), NO);
            due("nothing to judge", x.judge(1, 0), 100);
            due("another is", x.read(2, 0), 33);
        }
        SevenUnwashed x = some();
        for (int sort = 0; sort < 5; sort++) {
            for (int n : new int[] {0, 1, 60}) {
                for (int i = 0; i < 60; i++) {
                    x.item(1, i, -1);
                }
                due("a row", x.tape(1, sort, n), 1);
                due("the first", x.read(1, 0), n > 0 ? 0 : NO);
                due("the last", x.read(1, n - 1), n > 0 ? 0 : NO);
                due("behind it", x.read(1, n), NO);
                due("the first of another", x.read(2, 0), 33);
            }
            x = some();
        }
    }

    private static void items() {
        says(38, "(its lowest bits, as many as an item has; booleans: whether v is not 0): 1. NONE; NOTHING; PLACE.");
        for (int tape : new int[] {-1, 6, MIN, MAX}) {
            still("item", NONE, tape, 0, 1);
            still("item", NONE, tape, -1, 1);
        }
        still("item", NOTHING, 5, 0, 1);
        still("item", NOTHING, 5, -1, 1);
        for (int i : new int[] {-1, 4, 5, MIN, MAX}) {
            for (int tape = 0; tape < 5; tape++) {
                still("item", PLACE, tape, i, 1);
            }
        }
        SevenUnwashed x = some();
        x.tape(5, BYTES, 0);
        due("a row of none", x.item(5, 0, 1), PLACE);
        long[] v = {127, 128, 255, 256, 32767, 32768, 65535, 65536, (1L << 31) - 1, 1L << 31, (1L << 32) - 1, 1L << 32, Long.MIN_VALUE, -1, -129, 0};
        long[] bytes = {127, -128, -1, 0, -1, 0, -1, 0, -1, 0, -1, 0, 0, -1, 127, 0};
        long[] shorts = {127, 128, 255, 256, 32767, -32768, -1, 0, -1, 0, -1, 0, 0, -1, -129, 0};
        long[] ints = {127, 128, 255, 256, 32767, 32768, 65535, 65536, MAX, MIN, -1, 0, 0, -1, -129, 0};
        for (int i = 0; i < 16; i++) {
            long[] kept = {bytes[i], shorts[i], ints[i], v[i], v[i] != 0 ? 1 : 0};
            for (int tape = 0; tape < 5; tape++) {
                due("item", x.item(tape, 3, v[i]), 1);
                due(v[i] + " in sort " + tape, x.read(tape, 3), kept[tape]);
                due("another item", x.read(tape, 2), 0);
            }
        }
        says(39, "NO: no such TAPE, nothing there, no such place.");
        for (int tape : new int[] {-1, 5, 6, MIN, MAX}) {
            still("read", NO, tape, 0);
            still("read", NO, tape, -1);
        }
        for (int i : new int[] {-1, 4, 5, 60, MIN, MAX}) {
            for (int tape = 0; tape < 5; tape++) {
                still("read", NO, tape, i);
            }
        }
        still("read", 33, 0, 0);
        still("read", 3, 3, 3);
        says(40, "n items of a TAPE from i on come to another one (or the same) from j on, as they all were before: n. "
            + "NONE: tapes; NOTHING; CAST: of unlike sorts; PLACE: n, i or j is below 0, or beyond either's end.");
        for (int tape : new int[] {-1, 6, MIN, MAX}) {
            still("shift", NONE, tape, 0, 1, 0, 1);
            still("shift", NONE, 1, 0, tape, 0, 1);
            still("shift", NONE, tape, -1, 5, -1, -1);
            still("shift", NONE, 5, 0, tape, 0, 1);
        }
        still("shift", NOTHING, 5, 0, 1, 0, 1);
        still("shift", NOTHING, 1, 0, 5, 0, 1);
        still("shift", NOTHING, 5, -1, 5, -1, -1);
        still("shift", CAST, 0, 0, 1, 0, 1);
        still("shift", CAST, 3, -1, 2, 9, -1);
        still("shift", CAST, 4, 0, 0, 0, 0);
        places();
    }

    private static void places() {
        for (int other = 2; other < 6; other += 3) {
            int[][] amiss = {{-1, 0, 1}, {0, -1, 1}, {0, 0, -1}, {0, 0, 5}, {1, 0, 4}, {0, 1, 4}, {4, 0, 1}, {0, 4, 1}, {5, 0, 0}, {0, 5, 0},
                {MIN, 0, 1}, {0, MIN, 1}, {0, 0, MIN}, {MAX, 0, 1}, {0, MAX, 1}, {0, 0, MAX}, {1, 1, MAX}, {MAX, MAX, MAX}, {2, 2, MAX - 1},
                {MIN, MIN, MIN}, {MIN, 0, MAX}, {-1, 0, 0}, {0, -1, 0}};
            for (int[] at : amiss) {
                SevenUnwashed x = some();
                SevenUnwashed y = some();
                x.tape(5, INTS, 4);
                y.tape(5, INTS, 4);
                stillOf(x, whole(y), "shift", PLACE, 2, at[0], other, at[1], at[2]);
            }
        }
        still("shift", 0, 2, 4, 2, 4, 0);
        still("shift", 0, 2, 0, 2, 4, 0);
        still("shift", 4, 2, 0, 2, 0, 4);
        for (int i = 0; i <= 4; i++) {
            for (int j = 0; j <= 4; j++) {
                for (int n = 0; n <= 4 - Math.max(i, j); n++) {
                    same(i, j, n, 2);
                    same(i, j, n, 5);
                }
            }
        }
    }

    /** What stands in both TAPES behind a shift() that goes. */
    private static void same(int i, int j, int n, int other) {
        SevenUnwashed x = some();
        x.tape(5, INTS, 4);
        for (int k = 0; k < 4; k++) {
            x.item(2, k, 20 + k);
            x.item(5, k, 50 + k);
        }
        due("shift", x.shift(2, i, other, j, n), n);
        for (int k = 0; k < 4; k++) {
            boolean came = k >= j && k < j + n;
            int before = other * 10 + k;
            due(i + ", " + j + ", " + n + " to " + other, x.read(other, k), came ? 20 + k - j + i : before);
            due("where it came from", x.read(7 - other, k), (7 - other) * 10 + k);
        }
    }

    public static void main(String[] args) throws Exception {
        read(args[0]);
        people();
        changed();
        texts();
        days();
        best();
        seen();
        byHand();
        judged();
        tapes();
        items();
        for (int promise = 1; promise <= 40; promise++) {
            quotedAll("Promise " + promise, "\\b(NONE|BAD|STATE|FULL|NO|NOTHING|CAST|PLACE|SIZE)\\b|-\\d+|\\d+ \\.\\. \\d+|above \\d+|below 0");
        }
        endSentences();
    }
}
