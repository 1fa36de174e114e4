import java.util.function.Supplier;

/** Promises 1 to 5 and 15: a new object, make, setRef, ref, fileAt, commits. */
public final class CommitsAndRefsTest {
    private static final int NONE = FetchHouse.NONE, SERVER = FetchHouse.SERVER, CLIENT = FetchHouse.CLIENT;
    private static final Class<?> INDEX = IndexOutOfBoundsException.class;
    private static final Class<?> ARGUMENT = IllegalArgumentException.class;
    private static final Class<?> STATE = IllegalStateException.class;

    private static final Checks CHECKS = new Checks();

    public static void main(String[] args) {
        newObject();
        make();
        makeTakesSlotsOfTheFirstParent();
        makeGivesOneStoreTheCommitAndTheFile();
        makeRefuses();
        makeWhenSixtyWereMade();
        setRefAndRef();
        setRefAndRefRefuse();
        fileAt();
        commits();
        CHECKS.end();
    }

    private static void newObject() {
        CHECKS.promise("Promise 1: A new object");
        FetchHouse x = new FetchHouse();
        CHECKS.due("commits()", x.commits(), 0);
        CHECKS.due("rounds()", x.rounds(), 0);
        CHECKS.due("missing()", x.missing(), 0);
        for (int store = 0; store <= 1; store++) {
            for (int ref = 0; ref <= 3; ref++) {
                CHECKS.due("ref(" + store + ", " + ref + ")", x.ref(store, ref), NONE);
            }
            for (int file = 0; file <= 99; file++) {
                CHECKS.due("hasFile(" + store + ", " + file + ")", x.hasFile(store, file), false);
            }
            CHECKS.due("collect(" + store + ")", x.collect(store), 0);
        }
        for (int ref = 0; ref <= 3; ref++) {
            CHECKS.due("protect(" + ref + ", false)", x.protect(ref, false), false);
        }
        CHECKS.due("push()", x.push(), 0);
        CHECKS.due("move(3, -1, -1)", x.move(3, NONE, NONE), 1);
        new FetchHouse().make(SERVER, NONE, NONE, 0, 1);
        CHECKS.due("commits() after another object made one", x.commits(), 0);
    }

    private static void make() {
        CHECKS.promise("Promise 2: make");
        FetchHouse x = new FetchHouse();
        CHECKS.due("the first in the server", x.make(SERVER, NONE, NONE, 0, 0), 0);
        CHECKS.due("the next in the client", x.make(CLIENT, NONE, NONE, 3, 99), 1);
        CHECKS.due("on a parent", x.make(SERVER, 0, NONE, 1, 5), 2);
        CHECKS.due("on two parents", x.make(SERVER, 0, 2, 2, NONE), 3);
        CHECKS.due("its first parent is an ancestor", x.isAncestor(SERVER, 0, 3), true);
        CHECKS.due("its second parent is an ancestor", x.isAncestor(SERVER, 2, 3), true);
        CHECKS.due("it is no ancestor of a parent", x.isAncestor(SERVER, 3, 2), false);
        CHECKS.due("one without parents has no ancestor but itself", x.isAncestor(CLIENT, 0, 1), false);
    }

    private static void makeTakesSlotsOfTheFirstParent() {
        FetchHouse x = new FetchHouse();
        x.make(SERVER, NONE, NONE, 0, 10);
        x.make(SERVER, 0, NONE, 1, 11);
        x.make(SERVER, NONE, NONE, 2, 22);
        x.make(SERVER, 1, 2, 3, 33);
        x.make(SERVER, 3, NONE, 0, NONE);
        x.make(SERVER, 3, NONE, 1, 44);
        slotsDue(x, 0, 10, NONE, NONE, NONE);
        slotsDue(x, 1, 10, 11, NONE, NONE);
        slotsDue(x, 2, NONE, NONE, 22, NONE);
        slotsDue(x, 3, 10, 11, NONE, 33);
        slotsDue(x, 4, NONE, 11, NONE, 33);
        slotsDue(x, 5, 10, 44, NONE, 33);
    }

    private static void slotsDue(FetchHouse x, int commit, int... files) {
        for (int slot = 0; slot < files.length; slot++) {
            CHECKS.due("fileAt(" + commit + ", " + slot + ")", x.fileAt(commit, slot), files[slot]);
        }
    }

    private static void makeGivesOneStoreTheCommitAndTheFile() {
        FetchHouse x = new FetchHouse();
        x.make(CLIENT, NONE, NONE, 0, 7);
        CHECKS.due("the client has it", x.has(CLIENT, 0), true);
        CHECKS.due("the server has it not", x.has(SERVER, 0), false);
        CHECKS.due("the client has the file", x.hasFile(CLIENT, 7), true);
        CHECKS.due("the server has the file not", x.hasFile(SERVER, 7), false);
        x.make(SERVER, NONE, NONE, 0, 8);
        x.setRef(SERVER, 0, 1);
        x.fetch(0, 0, false);
        x.make(CLIENT, 1, NONE, 1, 9);
        CHECKS.due("the client has the new file", x.hasFile(CLIENT, 9), true);
        CHECKS.due("the client does not get a file that it lacked of the parent", x.hasFile(CLIENT, 8), false);
        x.make(CLIENT, 1, NONE, 1, NONE);
        CHECKS.due("missing()", x.missing(), 1);
    }

    /** Commit 0 in the server, 1 in the client. */
    private static FetchHouse oneInEach() {
        FetchHouse x = new FetchHouse();
        x.make(SERVER, NONE, NONE, 0, 1);
        x.make(CLIENT, NONE, NONE, 0, 2);
        return x;
    }

    private static void makeRefuses() {
        makeRefused(INDEX, -1, NONE, NONE, 0, 0);
        makeRefused(INDEX, 2, NONE, NONE, 0, 0);
        makeRefused(INDEX, SERVER, NONE, NONE, -1, 0);
        makeRefused(INDEX, SERVER, NONE, NONE, 4, 0);
        makeRefused(INDEX, SERVER, 1, NONE, 0, 0);
        makeRefused(INDEX, CLIENT, 0, NONE, 0, 0);
        makeRefused(INDEX, SERVER, 2, NONE, 0, 0);
        makeRefused(INDEX, SERVER, -2, NONE, 0, 0);
        makeRefused(INDEX, SERVER, 64, NONE, 0, 0);
        makeRefused(INDEX, SERVER, Integer.MIN_VALUE, NONE, 0, 0);
        makeRefused(INDEX, SERVER, 0, 1, 0, 0);
        makeRefused(INDEX, SERVER, 0, 2, 0, 0);
        makeRefused(INDEX, SERVER, 0, Integer.MAX_VALUE, 0, 0);
        makeRefused(ARGUMENT, SERVER, NONE, NONE, 0, -2);
        makeRefused(ARGUMENT, SERVER, NONE, NONE, 0, 100);
        makeRefused(ARGUMENT, SERVER, NONE, 0, 0, 0);
        makeRefused(ARGUMENT, SERVER, 0, 0, 0, 0);
        makeRefused(INDEX, 2, NONE, NONE, 0, 100);
        makeRefused(INDEX, SERVER, NONE, NONE, 4, 100);
        makeRefused(INDEX, SERVER, NONE, 1, 0, 0);
        makeRefused(INDEX, SERVER, 1, 1, 0, 100);
    }

    private static void makeRefused(Class<?> want, int store, int first, int second, int slot, int file) {
        CHECKS.refused("make(" + store + ", " + first + ", " + second + ", " + slot + ", " + file + ")", want,
                CommitsAndRefsTest::oneInEach, x -> x.make(store, first, second, slot, file));
    }

    private static FetchHouse sixty() {
        FetchHouse x = new FetchHouse();
        for (int commit = 0; commit < 60; commit++) {
            CHECKS.due("make", x.make(commit % 2, commit < 2 ? NONE : commit - 2, NONE, commit % 4, commit), commit);
        }
        return x;
    }

    private static void makeWhenSixtyWereMade() {
        Supplier<FetchHouse> start = CommitsAndRefsTest::sixty;
        CHECKS.refused("the 61st", STATE, start, x -> x.make(SERVER, NONE, NONE, 0, 0));
        CHECKS.refused("the 61st with a wrong slot", INDEX, start, x -> x.make(SERVER, NONE, NONE, 4, 0));
        CHECKS.refused("the 61st with a wrong file", ARGUMENT, start, x -> x.make(SERVER, NONE, NONE, 0, 100));
        CHECKS.refused("the 61st on the same", ARGUMENT, start, x -> x.make(SERVER, 2, 2, 0, 0));
        FetchHouse x = sixty();
        CHECKS.due("the last is held", x.has(CLIENT, 59), true);
        CHECKS.due("the first is its ancestor", x.isAncestor(CLIENT, 1, 59), true);
        CHECKS.due("all are dropped", x.collect(SERVER) + x.collect(CLIENT), 60);
        CHECKS.due("made ever counts, not held", Checks.thrownBy(() -> x.make(SERVER, NONE, NONE, 0, 0)), STATE);
    }

    private static void setRefAndRef() {
        CHECKS.promise("Promise 3: setRef");
        FetchHouse x = oneInEach();
        x.make(SERVER, 0, NONE, 0, 3);
        CHECKS.due("for the first time", x.setRef(SERVER, 3, 0), NONE);
        CHECKS.due("for another one", x.setRef(SERVER, 3, 2), 0);
        CHECKS.due("for the same", x.setRef(SERVER, 3, 2), 2);
        CHECKS.due("in the client", x.setRef(CLIENT, 3, 1), NONE);
        CHECKS.due("for a second ref", x.setRef(SERVER, 0, 0), NONE);
        CHECKS.promise("Promise 4: ref");
        CHECKS.due("ref(SERVER, 3)", x.ref(SERVER, 3), 2);
        CHECKS.due("ref(CLIENT, 3)", x.ref(CLIENT, 3), 1);
        CHECKS.due("ref(SERVER, 0)", x.ref(SERVER, 0), 0);
        CHECKS.due("ref(CLIENT, 0)", x.ref(CLIENT, 0), NONE);
        CHECKS.due("ref(SERVER, 1)", x.ref(SERVER, 1), NONE);
        CHECKS.promise("Promise 3: setRef");
        CHECKS.due("for none", x.setRef(SERVER, 3, NONE), 2);
        CHECKS.due("ref(SERVER, 3)", x.ref(SERVER, 3), NONE);
        x.protect(0, true);
        CHECKS.due("a protected ref is set as any other", x.setRef(SERVER, 0, NONE), 0);
        CHECKS.due("ref(SERVER, 0)", x.ref(SERVER, 0), NONE);
    }

    private static void setRefAndRefRefuse() {
        Supplier<FetchHouse> start = CommitsAndRefsTest::oneInEach;
        CHECKS.promise("Promise 3: setRef");
        CHECKS.refused("setRef(-1, 0, -1)", INDEX, start, x -> x.setRef(-1, 0, NONE));
        CHECKS.refused("setRef(2, 0, -1)", INDEX, start, x -> x.setRef(2, 0, NONE));
        CHECKS.refused("setRef(0, -1, 0)", INDEX, start, x -> x.setRef(SERVER, -1, 0));
        CHECKS.refused("setRef(0, 4, 0)", INDEX, start, x -> x.setRef(SERVER, 4, 0));
        CHECKS.refused("setRef(0, 0, 1), the client's", INDEX, start, x -> x.setRef(SERVER, 0, 1));
        CHECKS.refused("setRef(1, 0, 0), the server's", INDEX, start, x -> x.setRef(CLIENT, 0, 0));
        CHECKS.refused("setRef(0, 0, 2)", INDEX, start, x -> x.setRef(SERVER, 0, 2));
        CHECKS.refused("setRef(0, 0, -2)", INDEX, start, x -> x.setRef(SERVER, 0, -2));
        CHECKS.promise("Promise 4: ref");
        CHECKS.refused("ref(-1, 0)", INDEX, start, x -> x.ref(-1, 0));
        CHECKS.refused("ref(2, 0)", INDEX, start, x -> x.ref(2, 0));
        CHECKS.refused("ref(0, -1)", INDEX, start, x -> x.ref(SERVER, -1));
        CHECKS.refused("ref(1, 4)", INDEX, start, x -> x.ref(CLIENT, 4));
        CHECKS.asksOnly("ref(0, 0)", start, x -> x.ref(SERVER, 0));
    }

    private static void fileAt() {
        CHECKS.promise("Promise 5: fileAt");
        FetchHouse x = oneInEach();
        CHECKS.due("fileAt(0, 0)", x.fileAt(0, 0), 1);
        CHECKS.due("fileAt(1, 0)", x.fileAt(1, 0), 2);
        CHECKS.due("fileAt(1, 3)", x.fileAt(1, 3), NONE);
        x.make(SERVER, NONE, NONE, 3, 0);
        CHECKS.due("file 0", x.fileAt(2, 3), 0);
        x.collect(SERVER);
        CHECKS.due("of a commit that no store has any more", x.fileAt(0, 0), 1);
        Supplier<FetchHouse> start = CommitsAndRefsTest::oneInEach;
        CHECKS.refused("fileAt(-1, 0)", INDEX, start, y -> y.fileAt(NONE, 0));
        CHECKS.refused("fileAt(2, 0)", INDEX, start, y -> y.fileAt(2, 0));
        CHECKS.refused("fileAt(0, -1)", INDEX, start, y -> y.fileAt(0, -1));
        CHECKS.refused("fileAt(0, 4)", INDEX, start, y -> y.fileAt(0, 4));
        CHECKS.asksOnly("fileAt(0, 0)", start, y -> y.fileAt(0, 0));
    }

    private static void commits() {
        CHECKS.promise("Promise 15: commits");
        FetchHouse x = oneInEach();
        CHECKS.due("commits()", x.commits(), 2);
        x.setRef(SERVER, 0, 0);
        x.fetch(0, 0, true);
        CHECKS.due("after a fetch", x.commits(), 2);
        x.make(CLIENT, 0, 1, 0, NONE);
        CHECKS.due("after one more", x.commits(), 3);
        x.collect(CLIENT);
        x.collect(SERVER);
        CHECKS.due("after collecting", x.commits(), 3);
        CHECKS.asksOnly("commits()", CommitsAndRefsTest::oneInEach, y -> y.commits());
    }
}
