import java.util.function.Supplier;

/** Promises 14 and 16 to 19: collect, has, hasFile, isShallow, isAncestor. */
public final class StoresTest {
    private static final int NONE = FetchHouse.NONE, SERVER = FetchHouse.SERVER, CLIENT = FetchHouse.CLIENT;
    private static final Class<?> INDEX = IndexOutOfBoundsException.class;
    private static final Class<?> ARGUMENT = IllegalArgumentException.class;

    private static final Checks CHECKS = new Checks();

    public static void main(String[] args) {
        collectCommits();
        collectFiles();
        collectOneStore();
        collectAtShallowEnds();
        collectWhileMovesWait();
        has();
        hasFile();
        isShallow();
        isAncestor();
        CHECKS.end();
    }

    /** The server's 0 <- 1 <- 2, and 3 on 0, and 4 on 2 and 3; file n in slot 0 of commit n, ref 0 for 4. */
    private static FetchHouse diamond() {
        FetchHouse x = new FetchHouse();
        x.make(SERVER, NONE, NONE, 0, 0);
        x.make(SERVER, 0, NONE, 0, 1);
        x.make(SERVER, 1, NONE, 0, 2);
        x.make(SERVER, 0, NONE, 0, 3);
        x.make(SERVER, 2, 3, 0, 4);
        x.setRef(SERVER, 0, 4);
        return x;
    }

    private static void collectCommits() {
        CHECKS.promise("Promise 14: collect");
        FetchHouse x = diamond();
        CHECKS.due("all are needed", x.collect(SERVER), 0);
        x.setRef(SERVER, 0, NONE);
        x.setRef(SERVER, 3, 1);
        x.setRef(SERVER, 2, 3);
        CHECKS.due("2 and 4 are not", x.collect(SERVER), 2);
        CHECKS.due("has(0, 2) or has(0, 4)", x.has(SERVER, 2) || x.has(SERVER, 4), false);
        CHECKS.due("has(0, 0), has(0, 1) and has(0, 3)",
                x.has(SERVER, 0) && x.has(SERVER, 1) && x.has(SERVER, 3), true);
        CHECKS.due("refs stay", x.ref(SERVER, 3) + 10 * x.ref(SERVER, 2), 31);
        CHECKS.due("again", x.collect(SERVER), 0);
        x.setRef(SERVER, 3, NONE);
        x.setRef(SERVER, 2, NONE);
        CHECKS.due("without refs", x.collect(SERVER), 3);
        CHECKS.due("the next number", x.make(SERVER, NONE, NONE, 0, NONE), 5);
        Supplier<FetchHouse> start = StoresTest::diamond;
        CHECKS.refused("collect(-1)", INDEX, start, y -> y.collect(-1));
        CHECKS.refused("collect(2)", INDEX, start, y -> y.collect(2));
    }

    private static void collectFiles() {
        FetchHouse x = new FetchHouse();
        x.make(SERVER, NONE, NONE, 0, 10);
        x.make(SERVER, 0, NONE, 0, 11);
        x.make(SERVER, 1, NONE, 3, 12);
        x.make(SERVER, NONE, NONE, 2, 12);
        x.make(SERVER, NONE, NONE, 1, 13);
        x.setRef(SERVER, 1, 1);
        x.setRef(SERVER, 2, 3);
        CHECKS.due("collect(0)", x.collect(SERVER), 2);
        CHECKS.due("a file of an ancestor stays", x.hasFile(SERVER, 10), true);
        CHECKS.due("a file of a ref's commit stays", x.hasFile(SERVER, 11), true);
        CHECKS.due("a file that a kept one has, too, stays", x.hasFile(SERVER, 12), true);
        CHECKS.due("a file of a dropped one goes", x.hasFile(SERVER, 13), false);
        x.load(10);
        CHECKS.due("no commits to drop", x.collect(CLIENT), 0);
        CHECKS.due("a loaded file that no commit has goes all the same", x.hasFile(CLIENT, 10), false);
    }

    private static void collectOneStore() {
        FetchHouse x = diamond();
        x.fetch(0, 0, true);
        x.setRef(SERVER, 0, NONE);
        CHECKS.due("collect(0)", x.collect(SERVER), 5);
        CHECKS.due("the client keeps its own", x.has(CLIENT, 4) && x.hasFile(CLIENT, 4), true);
        CHECKS.due("by its own refs", x.collect(CLIENT), 0);
        x.setRef(CLIENT, 0, 1);
        CHECKS.due("collect(1)", x.collect(CLIENT), 3);
        CHECKS.due("hasFile(1, 4)", x.hasFile(CLIENT, 4), false);
        CHECKS.due("hasFile(1, 0)", x.hasFile(CLIENT, 0), true);
    }

    private static void collectAtShallowEnds() {
        FetchHouse x = diamond();
        x.setRef(SERVER, 1, 2);
        x.fetch(1, 1, true);
        x.setRef(SERVER, 2, 0);
        x.fetch(2, 0, true);
        x.setRef(CLIENT, 2, NONE);
        CHECKS.due("what lies behind a shallow one is dropped", x.collect(CLIENT), 1);
        CHECKS.due("has(1, 0)", x.has(CLIENT, 0), false);
        FetchHouse y = diamond();
        y.setRef(SERVER, 1, 3);
        y.fetch(1, 0, true);
        y.fetch(0, 1, true);
        y.setRef(CLIENT, 1, NONE);
        CHECKS.due("4 has its parent 3, but not 2: it is shallow", y.isShallow(4), true);
        CHECKS.due("so the parent that it has is no ancestor", y.collect(CLIENT), 2);
        CHECKS.due("has(1, 3)", y.has(CLIENT, 3), false);
        CHECKS.due("has(1, 4)", y.has(CLIENT, 4), true);
    }

    private static void collectWhileMovesWait() {
        FetchHouse x = new FetchHouse();
        x.make(CLIENT, NONE, NONE, 0, 1);
        x.move(0, NONE, 0);
        CHECKS.due("a move that waits keeps nothing", x.collect(CLIENT), 1);
        CHECKS.due("push()", x.push(), FetchHouse.LACKING);
    }

    private static void has() {
        CHECKS.promise("Promise 16: has");
        FetchHouse x = diamond();
        x.make(CLIENT, NONE, NONE, 0, NONE);
        CHECKS.due("has(0, 4)", x.has(SERVER, 4), true);
        CHECKS.due("has(1, 4)", x.has(CLIENT, 4), false);
        CHECKS.due("has(0, 5)", x.has(SERVER, 5), false);
        CHECKS.due("has(1, 5)", x.has(CLIENT, 5), true);
        x.collect(CLIENT);
        CHECKS.due("one that nobody has", x.has(CLIENT, 5), false);
        Supplier<FetchHouse> start = StoresTest::diamond;
        CHECKS.refused("has(-1, 0)", INDEX, start, y -> y.has(-1, 0));
        CHECKS.refused("has(2, 0)", INDEX, start, y -> y.has(2, 0));
        CHECKS.refused("has(0, -1)", INDEX, start, y -> y.has(SERVER, NONE));
        CHECKS.refused("has(0, 5)", INDEX, start, y -> y.has(SERVER, 5));
        CHECKS.refused("has(1, 64)", INDEX, start, y -> y.has(CLIENT, 64));
        CHECKS.asksOnly("has(0, 0)", start, y -> y.has(SERVER, 0));
    }

    private static void hasFile() {
        CHECKS.promise("Promise 17: hasFile");
        FetchHouse x = diamond();
        x.make(SERVER, NONE, NONE, 0, 99);
        CHECKS.due("hasFile(0, 0)", x.hasFile(SERVER, 0), true);
        CHECKS.due("hasFile(0, 99)", x.hasFile(SERVER, 99), true);
        CHECKS.due("hasFile(0, 98)", x.hasFile(SERVER, 98), false);
        CHECKS.due("hasFile(1, 0)", x.hasFile(CLIENT, 0), false);
        x.load(99);
        CHECKS.due("hasFile(1, 99)", x.hasFile(CLIENT, 99), true);
        Supplier<FetchHouse> start = StoresTest::diamond;
        CHECKS.refused("hasFile(-1, 0)", INDEX, start, y -> y.hasFile(-1, 0));
        CHECKS.refused("hasFile(2, 0)", INDEX, start, y -> y.hasFile(2, 0));
        CHECKS.refused("hasFile(0, -1)", ARGUMENT, start, y -> y.hasFile(SERVER, NONE));
        CHECKS.refused("hasFile(1, 100)", ARGUMENT, start, y -> y.hasFile(CLIENT, 100));
        CHECKS.refused("hasFile(2, 100)", INDEX, start, y -> y.hasFile(2, 100));
        CHECKS.asksOnly("hasFile(0, 0)", start, y -> y.hasFile(SERVER, 0));
    }

    private static void isShallow() {
        CHECKS.promise("Promise 18: isShallow");
        FetchHouse x = diamond();
        CHECKS.due("one that the client has not", x.isShallow(4), false);
        x.fetch(0, 2, true);
        CHECKS.due("both parents are there", x.isShallow(4), false);
        CHECKS.due("isShallow(2)", x.isShallow(2), true);
        CHECKS.due("isShallow(3)", x.isShallow(3), true);
        CHECKS.due("isShallow(1)", x.isShallow(1), false);
        x.setRef(SERVER, 1, 0);
        x.fetch(1, 0, true);
        CHECKS.due("without parents", x.isShallow(0), false);
        CHECKS.due("the parent is there now", x.isShallow(3), false);
        CHECKS.due("the parent is not", x.isShallow(2), true);
        x.make(CLIENT, 2, NONE, 0, NONE);
        CHECKS.due("one made on a shallow one", x.isShallow(5), false);
        FetchHouse y = diamond();
        y.setRef(SERVER, 1, 2);
        y.fetch(1, 0, true);
        y.fetch(0, 1, true);
        CHECKS.due("the first parent is there, the second is not", y.isShallow(4), true);
        y.setRef(CLIENT, 0, NONE);
        y.collect(CLIENT);
        CHECKS.due("one that was dropped", y.isShallow(4), false);
        Supplier<FetchHouse> start = StoresTest::diamond;
        CHECKS.refused("isShallow(-1)", INDEX, start, z -> z.isShallow(NONE));
        CHECKS.refused("isShallow(5)", INDEX, start, z -> z.isShallow(5));
        CHECKS.asksOnly("isShallow(0)", start, z -> z.isShallow(0));
    }

    private static void isAncestor() {
        CHECKS.promise("Promise 19: isAncestor");
        FetchHouse x = diamond();
        CHECKS.due("a parent", x.isAncestor(SERVER, 0, 1), true);
        CHECKS.due("farther", x.isAncestor(SERVER, 0, 4), true);
        CHECKS.due("by the second parent", x.isAncestor(SERVER, 3, 4), true);
        CHECKS.due("the same", x.isAncestor(SERVER, 2, 2), true);
        CHECKS.due("a child", x.isAncestor(SERVER, 1, 0), false);
        CHECKS.due("one beside", x.isAncestor(SERVER, 3, 2), false);
        CHECKS.due("the client lacks both", x.isAncestor(CLIENT, 0, 1), false);
        CHECKS.due("the client lacks the same", x.isAncestor(CLIENT, 0, 0), false);
        x.fetch(0, 2, true);
        CHECKS.due("a parent in the client", x.isAncestor(CLIENT, 2, 4), true);
        CHECKS.due("the client lacks one", x.isAncestor(CLIENT, 0, 4), false);
        CHECKS.due("the client lacks the other", x.isAncestor(CLIENT, 2, 1), false);
        x.setRef(SERVER, 1, 0);
        x.fetch(1, 0, true);
        CHECKS.due("across a shallow one", x.isAncestor(CLIENT, 0, 2), false);
        CHECKS.due("beside a shallow one", x.isAncestor(CLIENT, 0, 4), true);
        x.setRef(CLIENT, 0, 3);
        x.setRef(CLIENT, 1, NONE);
        x.collect(CLIENT);
        x.fetch(0, 1, true);
        CHECKS.due("4 has 3, but lacks 2, and is shallow", x.isAncestor(CLIENT, 3, 4), false);
        CHECKS.due("a shallow one itself", x.isAncestor(CLIENT, 4, 4), true);
        Supplier<FetchHouse> start = StoresTest::diamond;
        CHECKS.refused("isAncestor(-1, 0, 0)", INDEX, start, y -> y.isAncestor(-1, 0, 0));
        CHECKS.refused("isAncestor(2, 0, 0)", INDEX, start, y -> y.isAncestor(2, 0, 0));
        CHECKS.refused("isAncestor(0, -1, 0)", INDEX, start, y -> y.isAncestor(SERVER, NONE, 0));
        CHECKS.refused("isAncestor(0, 0, -1)", INDEX, start, y -> y.isAncestor(SERVER, 0, NONE));
        CHECKS.refused("isAncestor(1, 5, 0)", INDEX, start, y -> y.isAncestor(CLIENT, 5, 0));
        CHECKS.refused("isAncestor(1, 0, 5)", INDEX, start, y -> y.isAncestor(CLIENT, 0, 5));
        CHECKS.asksOnly("isAncestor(0, 0, 4)", start, y -> y.isAncestor(SERVER, 0, 4));
    }
}
