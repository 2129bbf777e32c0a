import java.lang.reflect.Method;
import java.nio.file.Path;
import java.util.Arrays;
import java.util.regex.Pattern;

/** Tests each of which begins with the words of the document that it is of. */
class Sentences extends Due {
    private static Document document;
    private static String said = "";
    private static int looksBefore;

    static void read(String file) throws Exception {
        document = new Document(Path.of(file));
    }

    /** What follows is the test of this sentence; the one ahead of it must have looked at something. */
    static void says(String section, String words) {
        done();
        at(section + ", \"" + words + "\"");
        due("the document says so, once", document.quote(section, words) ? 1 : 0, 1);
        said = words;
        looksBefore = looks();
    }

    private static void done() {
        if (!said.isEmpty()) {
            due("a test of its own", looks() > looksBefore ? 1 : 0, 1);
        }
    }

    static void says(int promise, String words) {
        says("Promise " + promise, words);
    }

    static void terms(String words) {
        says("Terms", words);
    }

    /** All of this form in a section is to have been quoted by now. */
    static void quotedAll(String section, String form) {
        at(section);
        for (String words : document.unquoted(section, Pattern.compile(form))) {
            due("not quoted: " + words, 0, 1);
        }
    }

    static void endSentences() {
        done();
        end();
    }

    /** One object that holds something of all that can be told, so that a change would show. */
    static SevenUnwashed some() {
        SevenUnwashed x = with("open 9 p<3;shut 5 s>3;cold 7;pocket 9;stink 2",
            DEVOUT, 1, 40, FALSE, 2, 37, TOLD, 5, 28, FEARFUL, 6, 15, PERSON, 3, 14);
        for (int part = 0; part < 4; part++) {
            x.row(2, part, 3 + part);
        }
        x.round(4);
        x.round(2);
        x.round(0);
        x.see(50, 0);
        x.see(66, 2);
        x.winter(0, 0);
        x.winter(1, 0);
        x.book(0, 39);
        x.pass(3);
        x.image();
        x.thanks(0, 33);
        x.kill(4, true);
        x.soldier(1, 55);
        x.round(3);
        x.see(-1, 0);
        x.see(x.on(2, 0), 2);
        x.winter(2, 0);
        x.winter(0, 0);
        x.book(3, 7);
        land(x, "open 2 k=1;cold 6");
        feed(x, "op");
        for (int tape = 0; tape < 5; tape++) {
            x.tape(tape, tape, 4);
            x.item(tape, 0, 33);
            x.item(tape, 3, tape);
        }
        x.act(2, 1, 5);
        return x;
    }

    /** One object that can hold no more. */
    static SevenUnwashed full() {
        SevenUnwashed x = with("open 9 p<3;cold 1", DEVOUT, 1, 40, FALSE, 2, 37, TOLD, 5, 28, FEARFUL, 6, 15, PERSON, 3, 14, HIRED, 0, 9);
        for (int i = 1; i < 6; i++) {
            land(x, "cold " + i);
        }
        feed(x, "open 1 p<3&d>1" + "|p=1".repeat(21) + "|p");
        for (int i = 0; i < 6; i++) {
            x.round(5 - i);
        }
        for (int i = 0; i < 5; i++) {
            x.see(50, 0);
        }
        for (int i = 0; i < 10; i++) {
            x.winter(i % 4, i % 6);
        }
        for (int i = 0; i < 8; i++) {
            x.book(0, 40);
        }
        x.image();
        x.row(2, 1, 6);
        x.tape(1, 1, 60);
        x.act(5, 2, 3);
        return x;
    }

    /** All that can be asked of an object without a change, and then what it leaves behind; it is used up by that. */
    static long[] whole(SevenUnwashed x) {
        long[] all = new long[300];
        int n = plain(x, all, 0);
        for (int tape = 0; tape < 6; tape++) {
            for (int i = 0; i < 5; i++) {
                all[n++] = x.read(tape, i);
            }
            all[n++] = x.judge(tape, 0);
        }
        for (int i = 0; i < 13; i++) {
            all[n++] = x.trace(i);
        }
        for (int part = 0; part < 4; part++) {
            all[n++] = x.row(2, part, 0);
        }
        feed(x, "en 1 p=0");
        all[n++] = x.land();
        all[n++] = x.of(0, 5);
        all[n++] = x.undo();
        n = plain(x, all, n);
        return Arrays.copyOf(all, n);
    }

    private static int plain(SevenUnwashed x, long[] all, int from) {
        int n = from;
        for (int what = 0; what < 8; what++) {
            all[n++] = x.count(what);
            all[n++] = x.told(what);
            all[n++] = x.told(10 + what);
        }
        for (int person = 0; person < x.count(0); person++) {
            for (int what = 1; what < 8; what++) {
                all[n++] = x.of(person, what);
            }
        }
        long[] more = {x.on(9, 0), x.on(60, 1), x.on(4, 2), x.on(7, 12), x.on(7, 22), x.dies(), x.worst(30, 0), x.worst(30, 1),
            x.aim(), x.swap(), x.enough(9), x.bears(9), x.whose(20), x.was(0, 0), x.was(0, 1), x.can(3, 0), x.can(3, 1),
            x.odds(30, 0), x.odds(30, 1), x.mean(8, 0), x.mean(8, 1), x.gone(0), x.gone(1), x.looked()};
        for (long one : more) {
            all[n++] = one;
        }
        return n;
    }

    private static Method methodOf(String name) {
        for (Method method : SevenUnwashed.class.getDeclaredMethods()) {
            if (method.getName().equals(name)) {
                return method;
            }
        }
        throw new IllegalStateException(name);
    }

    static long call(SevenUnwashed x, String name, long... arguments) {
        Method method = methodOf(name);
        Object[] all = new Object[arguments.length];
        for (int i = 0; i < all.length; i++) {
            Class<?> type = method.getParameterTypes()[i];
            all[i] = type == boolean.class ? (Object) (arguments[i] != 0)
                : type == int.class ? (Object) (int) arguments[i] : (Object) arguments[i];
        }
        try {
            return ((Number) method.invoke(x, all)).longValue();
        } catch (ReflectiveOperationException e) {
            throw new IllegalStateException(name, e);
        }
    }

    private static final long[] SOME = whole(some()), ALL = whole(full());

    /** A call that is answered so, to one who holds something, and nothing is changed by it. */
    static void still(String name, long want, long... arguments) {
        stillOf(some(), SOME, name, want, arguments);
    }

    /** Likewise to one who can hold no more. */
    static void stillFull(String name, long want, long... arguments) {
        stillOf(full(), ALL, name, want, arguments);
    }

    static void stillOf(SevenUnwashed x, long[] before, String name, long want, long... arguments) {
        String told = name + Arrays.toString(arguments);
        due(told, call(x, name, arguments), want);
        same(told + " changes nothing", whole(x), before);
    }
}
