import java.util.function.Supplier;

/** Stores without commits, without files and without refs: every method on them. */
public final class EmptyStoresTest {
    private static final int NONE = FetchHouse.NONE, SERVER = FetchHouse.SERVER, CLIENT = FetchHouse.CLIENT;
    private static final int STALE = FetchHouse.STALE, BACK = FetchHouse.BACK, LACKING = FetchHouse.LACKING;
    private static final Class<?> INDEX = IndexOutOfBoundsException.class;
    private static final Class<?> STATE = IllegalStateException.class;

    private static final Checks CHECKS = new Checks();

    public static void main(String[] args) {
        noCommitsAtAll();
        noCommitIsThere();
        noCommitsInTheServer();
        noCommitsInTheClient();
        droppedToNothing();
        noFiles();
        filesWithoutCommits();
        noRefs();
        objectsApart();
        CHECKS.end();
    }

    private static void noCommitsAtAll() {
        CHECKS.promise("Promise 1: A new object");
        CHECKS.sentence("Makes two empty stores");
        FetchHouse x = new FetchHouse();
        CHECKS.due("commits()", x.commits(), 0);
        CHECKS.due("rounds()", x.rounds(), 0);
        CHECKS.due("missing()", x.missing(), 0);
        CHECKS.due("push()", x.push(), 0);
        for (int store = SERVER; store <= CLIENT; store++) {
            CHECKS.due("collect", x.collect(store), 0);
            for (int ref = 0; ref <= 3; ref++) {
                CHECKS.due("ref", x.ref(store, ref), NONE);
                CHECKS.due("setRef to NONE", x.setRef(store, ref, NONE), NONE);
            }
            for (int file = 0; file <= 99; file++) {
                CHECKS.due("hasFile", x.hasFile(store, file), false);
            }
        }
        for (int ref = 0; ref <= 3; ref++) {
            CHECKS.due("protect to false", x.protect(ref, false), false);
            CHECKS.due("a move from NONE to NONE", x.move(ref, NONE, NONE), 1);
            CHECKS.due("its push", x.push(), 0);
            CHECKS.due("protect to true", x.protect(ref, true), true);
            CHECKS.due("a move from NONE to NONE, protected", x.move(ref, NONE, NONE), 1);
            CHECKS.due("its push", x.push(), 0);
        }
        CHECKS.due("the first commit", new FetchHouse().make(CLIENT, NONE, NONE, 0, NONE), 0);
    }

    private static void noCommitIsThere() {
        Supplier<FetchHouse> start = FetchHouse::new;
        for (int commit : new int[] {0, 1, 59}) {
            for (int store = SERVER; store <= CLIENT; store++) {
                int its = store;
                CHECKS.refused("make on " + commit, INDEX, start, x -> x.make(its, commit, NONE, 0, 0));
                CHECKS.refused("make with a second " + commit, INDEX, start, x -> x.make(its, NONE, commit, 0, 0));
                CHECKS.refused("setRef to " + commit, INDEX, start, x -> x.setRef(its, 0, commit));
                CHECKS.refused("has of " + commit, INDEX, start, x -> x.has(its, commit));
                CHECKS.refused("isAncestor of " + commit, INDEX, start, x -> x.isAncestor(its, commit, commit));
            }
            CHECKS.refused("fileAt of " + commit, INDEX, start, x -> x.fileAt(commit, 0));
            CHECKS.refused("isShallow of " + commit, INDEX, start, x -> x.isShallow(commit));
            CHECKS.refused("move from " + commit, INDEX, start, x -> x.move(0, commit, NONE));
            CHECKS.refused("move to " + commit, INDEX, start, x -> x.move(0, NONE, commit));
        }
        for (int ref = 0; ref <= 3; ref++) {
            int its = ref;
            CHECKS.refused("fetch of " + ref, STATE, start, x -> x.fetch(its, 0, true));
            CHECKS.refused("wouldFetch of " + ref, STATE, start, x -> x.wouldFetch(its, 1));
        }
        CHECKS.refused("load(0)", STATE, start, x -> x.load(0));
        CHECKS.refused("load(99)", STATE, start, x -> x.load(99));
    }

    /** The client's 0 <- 1, ref 0 for 1. */
    private static FetchHouse clientOnly() {
        FetchHouse x = new FetchHouse();
        x.make(CLIENT, NONE, NONE, 0, 5);
        x.make(CLIENT, 0, NONE, 1, 6);
        x.setRef(CLIENT, 0, 1);
        return x;
    }

    private static void noCommitsInTheServer() {
        CHECKS.promise("A server without commits");
        FetchHouse x = clientOnly();
        CHECKS.due("has(0, 0)", x.has(SERVER, 0), false);
        CHECKS.due("hasFile(0, 5)", x.hasFile(SERVER, 5), false);
        CHECKS.due("isAncestor(0, 0, 0)", x.isAncestor(SERVER, 0, 0), false);
        CHECKS.due("isAncestor(0, 0, 1)", x.isAncestor(SERVER, 0, 1), false);
        CHECKS.due("collect(0)", x.collect(SERVER), 0);
        CHECKS.due("missing()", x.missing(), 0);
        CHECKS.due("isShallow(1)", x.isShallow(1), false);
        Supplier<FetchHouse> start = EmptyStoresTest::clientOnly;
        CHECKS.refused("fetch", STATE, start, y -> y.fetch(0, 0, true));
        CHECKS.refused("wouldFetch", STATE, start, y -> y.wouldFetch(0, 0));
        CHECKS.refused("load", STATE, start, y -> y.load(5));
        CHECKS.refused("setRef", INDEX, start, y -> y.setRef(SERVER, 0, 1));
        CHECKS.refused("make", INDEX, start, y -> y.make(SERVER, 1, NONE, 0, 0));
        x.move(0, 0, 1);
        CHECKS.due("a push that tells a commit", x.push(), STALE);
        x.move(0, NONE, 1);
        CHECKS.due("a push of all", x.push(), 2);
        CHECKS.due("ref(0, 0)", x.ref(SERVER, 0), 1);
    }

    /** The server's 0 <- 1, refs 0 and 1 for 1. */
    private static FetchHouse serverOnly() {
        FetchHouse x = new FetchHouse();
        x.make(SERVER, NONE, NONE, 0, 5);
        x.make(SERVER, 0, NONE, 1, 6);
        x.setRef(SERVER, 0, 1);
        x.setRef(SERVER, 1, 1);
        x.protect(1, true);
        return x;
    }

    private static void noCommitsInTheClient() {
        CHECKS.promise("A client without commits");
        FetchHouse x = serverOnly();
        CHECKS.due("has(1, 0)", x.has(CLIENT, 0), false);
        CHECKS.due("isShallow(0)", x.isShallow(0), false);
        CHECKS.due("isShallow(1)", x.isShallow(1), false);
        CHECKS.due("isAncestor(1, 1, 1)", x.isAncestor(CLIENT, 1, 1), false);
        CHECKS.due("missing()", x.missing(), 0);
        CHECKS.due("collect(1)", x.collect(CLIENT), 0);
        Supplier<FetchHouse> start = EmptyStoresTest::serverOnly;
        CHECKS.refused("setRef", INDEX, start, y -> y.setRef(CLIENT, 0, 1));
        CHECKS.refused("make", INDEX, start, y -> y.make(CLIENT, 1, NONE, 0, 0));
        x.move(0, 1, 1);
        CHECKS.due("a push to what it lacks", x.push(), LACKING);
        x.move(1, 1, 1);
        CHECKS.due("a push of a protected ref to what it lacks", x.push(), BACK);
        x.move(1, 1, NONE);
        CHECKS.due("a push of a protected ref to NONE", x.push(), BACK);
        x.move(0, 1, NONE);
        CHECKS.due("a push to NONE", x.push(), 0);
        CHECKS.due("ref(0, 0)", x.ref(SERVER, 0), NONE);
        CHECKS.due("load(5)", x.load(5), true);
        CHECKS.due("missing() with a file alone", x.missing(), 0);
        CHECKS.due("wouldFetch(1, 0)", x.wouldFetch(1, 0), 2);
        CHECKS.due("fetch(1, 0, true)", x.fetch(1, 0, true), 2);
        CHECKS.due("rounds() with nothing to tell", x.rounds(), 0);
    }

    private static void droppedToNothing() {
        CHECKS.promise("Promise 14: collect");
        FetchHouse x = serverOnly();
        x.fetch(0, 0, true);
        x.setRef(CLIENT, 0, NONE);
        CHECKS.due("collect(1)", x.collect(CLIENT), 2);
        CHECKS.due("collect(1) again", x.collect(CLIENT), 0);
        CHECKS.due("missing()", x.missing(), 0);
        CHECKS.due("hasFile(1, 5) or hasFile(1, 6)", x.hasFile(CLIENT, 5) || x.hasFile(CLIENT, 6), false);
        CHECKS.due("fetch with nothing to tell any more", x.fetch(0, 1, false), 1);
        CHECKS.due("rounds()", x.rounds(), 0);
        CHECKS.due("fetch with one to tell", x.fetch(0, 1, false), 0);
        CHECKS.due("rounds()", x.rounds(), 1);
        x.setRef(SERVER, 0, NONE);
        x.setRef(SERVER, 1, NONE);
        CHECKS.due("collect(0)", x.collect(SERVER), 2);
        CHECKS.due("load then", Checks.thrownBy(() -> x.load(5)), STATE);
        CHECKS.due("commits()", x.commits(), 2);
        CHECKS.due("fileAt(1, 1)", x.fileAt(1, 1), 6);
    }

    private static void noFiles() {
        CHECKS.promise("Stores without files");
        FetchHouse x = new FetchHouse();
        for (int slot = 0; slot <= 3; slot++) {
            x.make(SERVER, slot - 1, NONE, slot, NONE);
        }
        x.setRef(SERVER, 0, 3);
        CHECKS.due("fetch with files", x.fetch(0, 0, true), 4);
        CHECKS.due("missing()", x.missing(), 0);
        for (int file = 0; file <= 99; file++) {
            int its = file;
            CHECKS.due("hasFile", x.hasFile(SERVER, file) || x.hasFile(CLIENT, file), false);
            CHECKS.due("load(" + file + ")", Checks.thrownBy(() -> x.load(its)), STATE);
        }
        x.make(CLIENT, 3, NONE, 0, NONE);
        x.move(0, 3, 4);
        CHECKS.due("push()", x.push(), 1);
        CHECKS.due("hasFile(0, 0)", x.hasFile(SERVER, 0), false);
        x.setRef(CLIENT, 0, NONE);
        CHECKS.due("collect(1)", x.collect(CLIENT), 5);
        for (int slot = 0; slot <= 3; slot++) {
            CHECKS.due("fileAt(4, " + slot + ")", x.fileAt(4, slot), NONE);
        }
    }

    private static void filesWithoutCommits() {
        CHECKS.promise("Files without commits");
        FetchHouse x = serverOnly();
        x.load(6);
        CHECKS.due("has(1, 1)", x.has(CLIENT, 1), false);
        CHECKS.due("missing()", x.missing(), 0);
        CHECKS.due("fetch without files", x.fetch(0, 1, false), 1);
        CHECKS.due("missing() of the other one", x.missing(), 1);
        x.setRef(CLIENT, 0, NONE);
        CHECKS.due("collect(1)", x.collect(CLIENT), 1);
        CHECKS.due("hasFile(1, 6)", x.hasFile(CLIENT, 6), false);
    }

    private static void noRefs() {
        CHECKS.promise("Stores without refs");
        Supplier<FetchHouse> start = () -> {
            FetchHouse x = new FetchHouse();
            x.make(SERVER, NONE, NONE, 0, 1);
            x.make(SERVER, 0, NONE, 0, 2);
            x.make(CLIENT, NONE, NONE, 0, 3);
            return x;
        };
        for (int ref = 0; ref <= 3; ref++) {
            int its = ref;
            CHECKS.refused("fetch", STATE, start, y -> y.fetch(its, 0, true));
            CHECKS.refused("wouldFetch", STATE, start, y -> y.wouldFetch(its, 0));
        }
        FetchHouse x = start.get();
        CHECKS.due("collect(0)", x.collect(SERVER), 2);
        CHECKS.due("has(1, 2)", x.has(CLIENT, 2), true);
        CHECKS.due("collect(1)", x.collect(CLIENT), 1);
        CHECKS.due("hasFile(0, 2) or hasFile(1, 3)", x.hasFile(SERVER, 2) || x.hasFile(CLIENT, 3), false);
    }

    private static void objectsApart() {
        CHECKS.promise("Promise 1: A new object");
        FetchHouse x = new FetchHouse();
        FetchHouse y = serverOnly();
        y.fetch(0, 0, true);
        y.move(0, 1, 1);
        CHECKS.unchanged("calls on another object", FetchHouse::new, z -> y.fetch(1, 0, true));
        CHECKS.due("commits()", x.commits(), 0);
        CHECKS.due("move", x.move(0, NONE, NONE), 1);
        CHECKS.due("protect", x.protect(1, true), true);
    }
}
