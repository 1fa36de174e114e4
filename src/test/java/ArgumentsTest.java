import java.util.ArrayList;
import java.util.Arrays;
import java.util.List;
import java.util.function.Supplier;

/**
 * Every argument of every method: what is in its range, the lowest and the highest of it among them, what lies next to
 * them on the outside, and NONE; all of them with all of the other arguments', so also which exception is thrown if
 * several apply. After each call that throws, the object is as it was.
 */
public final class ArgumentsTest {
    private static final int NONE = FetchHouse.NONE, SERVER = FetchHouse.SERVER, CLIENT = FetchHouse.CLIENT;
    private static final int MIN = Integer.MIN_VALUE, MAX = Integer.MAX_VALUE;
    private static final Class<?> INDEX = IndexOutOfBoundsException.class;
    private static final Class<?> ARGUMENT = IllegalArgumentException.class;
    private static final Class<?> STATE = IllegalStateException.class;
    private static final Class<?> FINE = null;

    private static final Checks CHECKS = new Checks();

    /** Values of one argument, or of some that are judged together, and the exception that they ask for. */
    private record Part(Class<?> asksFor, int... values) { }

    private interface Call {
        void on(FetchHouse x, int[] arguments);
    }

    public static void main(String[] args) {
        make();
        makeWhenFull();
        setRef();
        ref();
        fileAt();
        fetch();
        wouldFetch();
        load();
        protect();
        move();
        moveWhenThreeWait();
        collect();
        has();
        hasFile();
        isShallow();
        isAncestor();
        noArgumentsNoThrow();
        CHECKS.end();
    }

    // ---- states to call in

    /**
     * The server has 0 <- 1 <- 4 and 0 as 4's second parent, the client 1 (shallow), 2 (a root) and 3 on 1. The server's
     * refs 0 and 3 are for 1 and 0, the client's ref 0 for 1. A move waits that would be done, and ref 3 is protected.
     */
    private static FetchHouse five() {
        FetchHouse x = new FetchHouse();
        x.make(SERVER, NONE, NONE, 0, 0);
        x.make(SERVER, 0, NONE, 1, 50);
        x.make(CLIENT, NONE, NONE, 3, 99);
        x.setRef(SERVER, 0, 1);
        x.setRef(SERVER, 3, 0);
        x.fetch(0, 1, false);
        x.make(CLIENT, 1, NONE, 2, 7);
        x.make(SERVER, 1, 0, 2, 8);
        x.protect(3, true);
        x.fetch(0, 1, false);
        x.move(0, 1, 3);
        return x;
    }

    private static FetchHouse fiveAndThreeWait() {
        FetchHouse x = five();
        x.move(1, NONE, 2);
        x.move(2, NONE, NONE);
        return x;
    }

    private static FetchHouse sixty() {
        FetchHouse x = five();
        for (int made = 5; made < 60; made++) {
            x.make(made % 2, NONE, NONE, 0, NONE);
        }
        return x;
    }

    // ---- arguments

    private static Part[] parts(Part... parts) {
        return parts;
    }

    /** Each value an argument by itself. */
    private static Part[] range(Class<?> outside, int[] fine, int... wrong) {
        List<Part> parts = new ArrayList<>();
        for (int value : fine) {
            parts.add(new Part(FINE, value));
        }
        for (int value : wrong) {
            parts.add(new Part(outside, value));
        }
        return parts.toArray(new Part[0]);
    }

    private static int[] fine(int... values) {
        return values;
    }

    private static Part[] stores() {
        return range(INDEX, fine(SERVER, CLIENT), -1, 2, MIN, MAX);
    }

    private static Part[] refs() {
        return range(INDEX, fine(0, 3), -1, 4, MIN, MAX);
    }

    private static Part[] slots() {
        return range(INDEX, fine(0, 3), -1, 4, MIN, MAX);
    }

    /** A commit that was made, whoever has it: 5 is the next one's number. */
    private static Part[] commits() {
        return range(INDEX, fine(0, 4), NONE, 5, -2, 59, 60, 63, 64, MIN, MAX);
    }

    private static Part[] commitsOrNone() {
        return range(INDEX, fine(NONE, 0, 4), -2, 5, 60, 64, 128, MIN, MAX);
    }

    private static Part[] files() {
        return range(ARGUMENT, fine(0, 99), NONE, 100, MIN, MAX);
    }

    private static Part[] filesOrNone() {
        return range(ARGUMENT, fine(NONE, 0, 99), -2, 100, MIN, MAX);
    }

    private static Part[] depths() {
        return range(ARGUMENT, fine(0, 1, 60), -1, 61, MIN, MAX);
    }

    private static Part[] booleans() {
        return range(INDEX, fine(0, 1));
    }

    // ---- promises

    private static void make() {
        CHECKS.promise("Promise 2: make");
        all("make", FINE, ArgumentsTest::five, ArgumentsTest::callMake, makers(), slots(), filesOrNone());
    }

    private static void makeWhenFull() {
        CHECKS.sentence("Throws IllegalStateException if 60 commits were made");
        all("make", STATE, ArgumentsTest::sixty, ArgumentsTest::callMake, makers(),
                range(INDEX, fine(3), 4), range(ARGUMENT, fine(NONE, 0), -2, 100));
    }

    private static void callMake(FetchHouse x, int[] a) {
        x.make(a[0], a[1], a[2], a[3], a[4]);
    }

    /** Stores with both parents: the server has 0, 1 and 4, the client 1, 2 and 3. */
    private static Part[] makers() {
        return parts(
                new Part(FINE, SERVER, NONE, NONE), new Part(FINE, CLIENT, NONE, NONE),
                new Part(FINE, SERVER, 0, NONE), new Part(FINE, SERVER, 4, NONE), new Part(FINE, SERVER, 0, 4),
                new Part(FINE, SERVER, 4, 0), new Part(FINE, CLIENT, 3, 1), new Part(FINE, CLIENT, 1, 2),
                new Part(INDEX, -1, NONE, NONE), new Part(INDEX, 2, NONE, NONE), new Part(INDEX, 2, 0, NONE),
                new Part(INDEX, MIN, NONE, NONE), new Part(INDEX, MAX, NONE, NONE),
                new Part(INDEX, SERVER, 2, NONE), new Part(INDEX, SERVER, 0, 2), new Part(INDEX, CLIENT, 0, NONE),
                new Part(INDEX, CLIENT, 1, 4), new Part(INDEX, SERVER, -2, NONE), new Part(INDEX, SERVER, 0, -2),
                new Part(INDEX, SERVER, 60, NONE), new Part(INDEX, SERVER, 0, 60), new Part(INDEX, SERVER, 64, NONE),
                new Part(INDEX, SERVER, 4, 64), new Part(INDEX, SERVER, MIN, NONE), new Part(INDEX, SERVER, 0, MIN),
                new Part(INDEX, SERVER, MAX, NONE), new Part(INDEX, SERVER, 0, MAX),
                new Part(ARGUMENT, SERVER, NONE, 0), new Part(ARGUMENT, SERVER, NONE, 4),
                new Part(ARGUMENT, CLIENT, NONE, 3), new Part(ARGUMENT, SERVER, 0, 0),
                new Part(ARGUMENT, SERVER, 4, 4), new Part(ARGUMENT, CLIENT, 2, 2),
                new Part(INDEX, SERVER, NONE, 2), new Part(INDEX, SERVER, 2, 2), new Part(INDEX, CLIENT, NONE, 60),
                new Part(INDEX, CLIENT, 60, 60), new Part(INDEX, 2, 0, 0), new Part(INDEX, -1, NONE, 0));
    }

    private static void setRef() {
        CHECKS.promise("Promise 3: setRef");
        Part[] stored = parts(
                new Part(FINE, SERVER, NONE), new Part(FINE, CLIENT, NONE), new Part(FINE, SERVER, 0),
                new Part(FINE, SERVER, 4), new Part(FINE, CLIENT, 1), new Part(FINE, CLIENT, 3),
                new Part(INDEX, -1, NONE), new Part(INDEX, 2, NONE), new Part(INDEX, 2, 1), new Part(INDEX, MIN, NONE),
                new Part(INDEX, MAX, NONE), new Part(INDEX, SERVER, -2), new Part(INDEX, SERVER, 5),
                new Part(INDEX, CLIENT, 5), new Part(INDEX, SERVER, 2), new Part(INDEX, CLIENT, 0),
                new Part(INDEX, CLIENT, 4), new Part(INDEX, SERVER, 60), new Part(INDEX, SERVER, 64),
                new Part(INDEX, SERVER, MIN), new Part(INDEX, SERVER, MAX));
        all("setRef", FINE, ArgumentsTest::five, (x, a) -> x.setRef(a[0], a[2], a[1]), stored, refs());
    }

    private static void ref() {
        CHECKS.promise("Promise 4: ref");
        all("ref", FINE, ArgumentsTest::five, (x, a) -> x.ref(a[0], a[1]), stores(), refs());
    }

    private static void fileAt() {
        CHECKS.promise("Promise 5: fileAt");
        all("fileAt", FINE, ArgumentsTest::five, (x, a) -> x.fileAt(a[0], a[1]), commits(), slots());
    }

    private static void fetch() {
        CHECKS.promise("Promise 6: fetch");
        all("fetch", FINE, ArgumentsTest::five, (x, a) -> x.fetch(a[0], a[1], a[2] != 0), refs(), depths(), booleans());
        CHECKS.sentence("Throws IllegalStateException if the server's ref is for none");
        all("fetch", STATE, ArgumentsTest::five, (x, a) -> x.fetch(a[0], a[1], a[2] != 0),
                range(INDEX, fine(1, 2), 4), depths(), booleans());
    }

    private static void wouldFetch() {
        CHECKS.promise("Promise 7: wouldFetch");
        all("wouldFetch", FINE, ArgumentsTest::five, (x, a) -> x.wouldFetch(a[0], a[1]), refs(), depths());
        CHECKS.sentence("Throws IllegalStateException if the server's ref is for none");
        all("wouldFetch", STATE, ArgumentsTest::five, (x, a) -> x.wouldFetch(a[0], a[1]),
                range(INDEX, fine(1, 2), 4), depths());
    }

    private static void load() {
        CHECKS.promise("Promise 9: load");
        Supplier<FetchHouse> start = () -> {
            FetchHouse x = five();
            x.make(SERVER, NONE, NONE, 0, 99);
            return x;
        };
        all("load", FINE, start, (x, a) -> x.load(a[0]), files());
        CHECKS.sentence("Throws IllegalStateException if the server does not have it");
        all("load", STATE, ArgumentsTest::five, (x, a) -> x.load(a[0]), range(ARGUMENT, fine(1, 7, 98, 99), -1, 100));
    }

    private static void protect() {
        CHECKS.promise("Promise 11: protect");
        all("protect", FINE, ArgumentsTest::five, (x, a) -> x.protect(a[0], a[1] != 0), refs(), booleans());
    }

    private static void move() {
        CHECKS.promise("Promise 12: move");
        all("move", FINE, ArgumentsTest::five, (x, a) -> x.move(a[0], a[1], a[2]),
                refs(), commitsOrNone(), commitsOrNone());
    }

    private static void moveWhenThreeWait() {
        CHECKS.sentence("Throws IllegalStateException if 3 wait");
        all("move", STATE, ArgumentsTest::fiveAndThreeWait, (x, a) -> x.move(a[0], a[1], a[2]),
                refs(), commitsOrNone(), commitsOrNone());
    }

    private static void collect() {
        CHECKS.promise("Promise 14: collect");
        all("collect", FINE, ArgumentsTest::five, (x, a) -> x.collect(a[0]), stores());
    }

    private static void has() {
        CHECKS.promise("Promise 16: has");
        all("has", FINE, ArgumentsTest::five, (x, a) -> x.has(a[0], a[1]), stores(), commits());
    }

    private static void hasFile() {
        CHECKS.promise("Promise 17: hasFile");
        all("hasFile", FINE, ArgumentsTest::five, (x, a) -> x.hasFile(a[0], a[1]), stores(), files());
    }

    private static void isShallow() {
        CHECKS.promise("Promise 18: isShallow");
        all("isShallow", FINE, ArgumentsTest::five, (x, a) -> x.isShallow(a[0]), commits());
    }

    private static void isAncestor() {
        CHECKS.promise("Promise 19: isAncestor");
        all("isAncestor", FINE, ArgumentsTest::five, (x, a) -> x.isAncestor(a[0], a[1], a[2]),
                stores(), commits(), commits());
    }

    private static void noArgumentsNoThrow() {
        for (Supplier<FetchHouse> start : List.<Supplier<FetchHouse>>of(FetchHouse::new, ArgumentsTest::five,
                ArgumentsTest::fiveAndThreeWait, ArgumentsTest::sixty)) {
            FetchHouse x = start.get();
            CHECKS.promise("Promise 8: rounds");
            CHECKS.due("rounds() throws", Checks.thrownBy(x::rounds), FINE);
            CHECKS.promise("Promise 10: missing");
            CHECKS.due("missing() throws", Checks.thrownBy(x::missing), FINE);
            CHECKS.promise("Promise 13: push");
            CHECKS.due("push() throws", Checks.thrownBy(x::push), FINE);
            CHECKS.promise("Promise 15: commits");
            CHECKS.due("commits() throws", Checks.thrownBy(x::commits), FINE);
        }
    }

    // ---- all parts with all others

    /** The exception for arguments that are all fine is the state's. */
    private static void all(String method, Class<?> ofState, Supplier<FetchHouse> start, Call call, Part[]... groups) {
        List<Object> before = Checks.stateOf(start);
        int[] chosen = new int[groups.length];
        while (chosen[0] < groups[0].length) {
            one(method, ofState, start, before, call, choose(groups, chosen));
            int group = groups.length - 1;
            chosen[group]++;
            while (group > 0 && chosen[group] == groups[group].length) {
                chosen[group] = 0;
                group--;
                chosen[group]++;
            }
        }
    }

    private static List<Part> choose(Part[][] groups, int[] chosen) {
        List<Part> parts = new ArrayList<>();
        for (int group = 0; group < groups.length; group++) {
            parts.add(groups[group][chosen[group]]);
        }
        return parts;
    }

    private static void one(String method, Class<?> ofState, Supplier<FetchHouse> start, List<Object> before,
            Call call, List<Part> parts) {
        int[] arguments = parts.stream().flatMapToInt(part -> Arrays.stream(part.values())).toArray();
        Class<?> want = asked(parts, INDEX) ? INDEX : asked(parts, ARGUMENT) ? ARGUMENT : ofState;
        String what = method + Arrays.toString(arguments);
        FetchHouse x = start.get();
        CHECKS.due(what + " throws", Checks.thrownBy(() -> call.on(x, arguments)), want);
        if (want != null) {
            CHECKS.due("the state after " + what, Checks.stateOf(() -> {
                FetchHouse called = start.get();
                Checks.thrownBy(() -> call.on(called, arguments));
                return called;
            }), before);
        }
    }

    private static boolean asked(List<Part> parts, Class<?> exception) {
        return parts.stream().anyMatch(part -> part.asksFor() == exception);
    }
}
