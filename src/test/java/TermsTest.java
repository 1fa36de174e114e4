import java.util.function.Supplier;

/** The sentences under "Terms", and those of the promises that rest on them, each at the places where it turns. */
public final class TermsTest {
    private static final int NONE = FetchHouse.NONE, SERVER = FetchHouse.SERVER, CLIENT = FetchHouse.CLIENT;
    private static final int STALE = FetchHouse.STALE;
    private static final Class<?> INDEX = IndexOutOfBoundsException.class;
    private static final Class<?> STATE = IllegalStateException.class;

    private static final Checks CHECKS = new Checks();

    public static void main(String[] args) {
        questions();
        numbers();
        slots();
        slotsOfParents();
        theFileThatIsTold();
        refs();
        droppedOnes();
        ancestorsInTheServer();
        ancestorsInTheClient();
        shallow();
        halfShallow();
        toldByFallingNumbers();
        toldInWholeRounds();
        commonAreAncestorsInTheClient();
        notToldAgain();
        tellsWhatItHadBefore();
        reach();
        getsWhatIsNotCommon();
        filesOfWhatItGets();
        theClientsRef();
        theServersRef();
        loadedBefore();
        missingFiles();
        pushedAncestors();
        pushedFiles();
        allMovesOrNone();
        collectedByAllRefs();
        collectedFiles();
        CHECKS.end();
    }

    private static int push(FetchHouse x, int ref, int old, int its) {
        x.move(ref, old, its);
        return x.push();
    }

    /** A store's line 0 to last, file n in slot 0 of commit n. */
    private static FetchHouse line(int store, int last) {
        FetchHouse x = new FetchHouse();
        for (int commit = 0; commit <= last; commit++) {
            x.make(store, commit - 1, NONE, 0, commit);
        }
        x.setRef(store, 0, last);
        return x;
    }

    /** Makes the client drop all that its refs do not hold, but for one, which its ref 3 holds then. */
    private static void keepOnly(FetchHouse x, int commit) {
        for (int ref = 0; ref <= 3; ref++) {
            x.setRef(CLIENT, ref, ref == 3 ? commit : NONE);
        }
        x.collect(CLIENT);
    }

    // ---- commits and stores

    private static void questions() {
        CHECKS.promise("Terms");
        CHECKS.sentence("Questions change nothing");
        Supplier<FetchHouse> start = () -> {
            FetchHouse x = line(SERVER, 6);
            x.fetch(0, 3, false);
            x.fetch(0, 2, true);
            x.protect(2, true);
            x.make(CLIENT, 6, NONE, 1, 50);
            x.move(0, 6, 7);
            return x;
        };
        CHECKS.asksOnly("ref", start, x -> x.ref(SERVER, 0));
        CHECKS.asksOnly("fileAt", start, x -> x.fileAt(7, 1));
        CHECKS.asksOnly("wouldFetch", start, x -> x.wouldFetch(0, 0));
        CHECKS.asksOnly("wouldFetch of less", start, x -> x.wouldFetch(0, 1));
        CHECKS.asksOnly("rounds", start, x -> x.rounds());
        CHECKS.asksOnly("missing", start, x -> x.missing());
        CHECKS.asksOnly("commits", start, x -> x.commits());
        CHECKS.asksOnly("has", start, x -> x.has(CLIENT, 3));
        CHECKS.asksOnly("hasFile", start, x -> x.hasFile(CLIENT, 3));
        CHECKS.asksOnly("isShallow", start, x -> x.isShallow(4));
        CHECKS.asksOnly("isAncestor", start, x -> x.isAncestor(CLIENT, 4, 7));
    }

    private static void numbers() {
        CHECKS.sentence("Commits are numbered from 0 in the order in which they were made");
        FetchHouse x = new FetchHouse();
        CHECKS.due("the first", x.make(CLIENT, NONE, NONE, 0, 1), 0);
        CHECKS.due("commits()", x.commits(), 1);
        CHECKS.due("in the other store", x.make(SERVER, NONE, NONE, 0, 1), 1);
        CHECKS.due("a like one", x.make(SERVER, NONE, NONE, 0, 1), 2);
        Checks.thrownBy(() -> x.make(SERVER, 0, NONE, 0, 1));
        Checks.thrownBy(() -> x.make(SERVER, 1, 1, 0, 1));
        CHECKS.due("after refused ones", x.make(SERVER, 2, 1, 0, 1), 3);
        x.collect(SERVER);
        x.collect(CLIENT);
        CHECKS.due("after all were dropped", x.make(CLIENT, NONE, NONE, 0, 1), 4);
        CHECKS.due("commits()", x.commits(), 5);
    }

    private static void slots() {
        CHECKS.promise("Promise 5: fileAt");
        CHECKS.sentence("the slots 0 to 3, each with a file, 0 to 99, or none");
        for (int slot = 0; slot <= 3; slot++) {
            for (int file : new int[] {NONE, 0, 1, 98, 99}) {
                FetchHouse x = new FetchHouse();
                x.make(SERVER, NONE, NONE, slot, file);
                for (int each = 0; each <= 3; each++) {
                    CHECKS.due("fileAt(0, " + each + ") with " + file + " in " + slot, x.fileAt(0, each),
                            each == slot ? file : NONE);
                }
            }
        }
    }

    private static void slotsOfParents() {
        CHECKS.promise("Promise 2: make");
        CHECKS.sentence(
                "its slots are those of its first parent, or without files if it has none, but for one that is told");
        FetchHouse x = new FetchHouse();
        x.make(SERVER, NONE, NONE, 0, 10);
        x.make(SERVER, 0, NONE, 3, 13);
        x.make(SERVER, NONE, NONE, 1, 21);
        slotsDue(x, x.make(SERVER, 1, NONE, 1, 11), 10, 11, NONE, 13);
        slotsDue(x, x.make(SERVER, 1, 2, 2, 12), 10, NONE, 12, 13);
        slotsDue(x, x.make(SERVER, 2, 1, 2, 12), NONE, 21, 12, NONE);
        slotsDue(x, x.make(SERVER, 1, NONE, 0, NONE), NONE, NONE, NONE, 13);
        slotsDue(x, x.make(SERVER, 1, NONE, 2, NONE), 10, NONE, NONE, 13);
        slotsDue(x, x.make(SERVER, 1, 2, 1, NONE), 10, NONE, NONE, 13);
        slotsDue(x, x.make(SERVER, 1, NONE, 0, 13), 13, NONE, NONE, 13);
        slotsDue(x, x.make(SERVER, 1, NONE, 0, 10), 10, NONE, NONE, 13);
        slotsDue(x, x.make(SERVER, NONE, NONE, 3, 0), NONE, NONE, NONE, 0);
        slotsDue(x, 1, 10, NONE, NONE, 13);
        slotsDue(x, 0, 10, NONE, NONE, NONE);
    }

    private static void slotsDue(FetchHouse x, int commit, int... files) {
        for (int slot = 0; slot <= 3; slot++) {
            CHECKS.due("fileAt(" + commit + ", " + slot + ")", x.fileAt(commit, slot), files[slot]);
        }
    }

    private static void theFileThatIsTold() {
        CHECKS.sentence("The store has the commit, and the file, then");
        for (int store = SERVER; store <= CLIENT; store++) {
            for (int file : new int[] {0, 1, 98, 99}) {
                FetchHouse x = new FetchHouse();
                x.make(store, NONE, NONE, 3, file);
                CHECKS.due("has", x.has(store, 0), true);
                CHECKS.due("has of the other store", x.has(1 - store, 0), false);
                for (int each = 0; each <= 99; each++) {
                    CHECKS.due("hasFile of " + each, x.hasFile(store, each), each == file);
                    CHECKS.due("hasFile of " + each + " in the other store", x.hasFile(1 - store, each), false);
                }
            }
        }
        FetchHouse x = line(SERVER, 1);
        x.fetch(0, 0, false);
        x.make(CLIENT, 1, NONE, 1, 40);
        CHECKS.due("a parent's file that the client lacks", x.hasFile(CLIENT, 1), false);
        x.make(CLIENT, 1, NONE, 2, 1);
        CHECKS.due("when it is told", x.hasFile(CLIENT, 1), true);
    }

    private static void refs() {
        CHECKS.promise("Promise 3: setRef");
        CHECKS.sentence("the refs 0 to 3, each for a commit that it has, or for none, as at first");
        for (int store = SERVER; store <= CLIENT; store++) {
            for (int ref = 0; ref <= 3; ref++) {
                FetchHouse x = line(store, 2);
                x.setRef(store, 0, NONE);
                CHECKS.due("for the first", x.setRef(store, ref, 0), NONE);
                CHECKS.due("for the last", x.setRef(store, ref, 2), 0);
                for (int each = 0; each <= 3; each++) {
                    CHECKS.due("ref " + each, x.ref(store, each), each == ref ? 2 : NONE);
                    CHECKS.due("ref " + each + " of the other store", x.ref(1 - store, each), NONE);
                }
                CHECKS.due("for none", x.setRef(store, ref, NONE), 2);
                CHECKS.due("for none again", x.setRef(store, ref, NONE), NONE);
            }
        }
    }

    private static void droppedOnes() {
        CHECKS.promise("Terms");
        CHECKS.sentence("a commit that the store has");
        for (int store = SERVER; store <= CLIENT; store++) {
            int its = store;
            Supplier<FetchHouse> start = () -> {
                FetchHouse x = line(its, 2);
                x.setRef(its, 0, 1);
                x.collect(its);
                return x;
            };
            CHECKS.refused("make on a dropped one", INDEX, start, x -> x.make(its, 2, NONE, 0, 0));
            CHECKS.refused("make with a dropped second", INDEX, start, x -> x.make(its, 1, 2, 0, 0));
            CHECKS.refused("setRef to a dropped one", INDEX, start, x -> x.setRef(its, 0, 2));
            CHECKS.due("has of a dropped one", start.get().has(store, 2), false);
            CHECKS.due("isAncestor of a dropped one", start.get().isAncestor(store, 1, 2), false);
            CHECKS.due("isShallow of a dropped one", start.get().isShallow(2), false);
            CHECKS.due("fileAt of a dropped one", start.get().fileAt(2, 0), 2);
            CHECKS.due("move to a dropped one", start.get().move(0, 2, 2), 1);
            CHECKS.due("make on a kept one", start.get().make(store, 1, 0, 0, 0), 3);
            CHECKS.due("setRef to a kept one", start.get().setRef(store, 0, 0), 1);
        }
    }

    /** In the server: 0 <- 1 <- 2, 3 alone, 4 on 3 and 1, 5 on 2 and 4. */
    private static FetchHouse crossed() {
        FetchHouse x = new FetchHouse();
        x.make(SERVER, NONE, NONE, 0, 0);
        x.make(SERVER, 0, NONE, 0, 1);
        x.make(SERVER, 1, NONE, 0, 2);
        x.make(SERVER, NONE, NONE, 0, 3);
        x.make(SERVER, 3, 1, 0, 4);
        x.make(SERVER, 2, 4, 0, 5);
        x.setRef(SERVER, 0, 5);
        return x;
    }

    private static void ancestorsInTheServer() {
        CHECKS.promise("Promise 19: isAncestor");
        CHECKS.sentence("the commit itself, and, for each ancestor .., its parents that the store has");
        int[][] ancestors = {{0}, {0, 1}, {0, 1, 2}, {3}, {0, 1, 3, 4}, {0, 1, 2, 3, 4, 5}};
        ancestorsDue(crossed(), SERVER, ancestors);
        FetchHouse x = crossed();
        x.fetch(0, 1, true);
        CHECKS.sentence("In the server no commit is shallow");
        ancestorsDue(x, SERVER, ancestors);
        CHECKS.due("isShallow(5), in the client", x.isShallow(5), true);
        CHECKS.sentence("false if the store lacks either");
        ancestorsDue(crossed(), CLIENT, new int[][] {{}, {}, {}, {}, {}, {}});
    }

    private static void ancestorsDue(FetchHouse x, int store, int[][] ancestors) {
        for (int other = 0; other < ancestors.length; other++) {
            for (int commit = 0; commit < x.commits(); commit++) {
                boolean want = false;
                for (int ancestor : ancestors[other]) {
                    want |= ancestor == commit;
                }
                CHECKS.due("isAncestor(" + store + ", " + commit + ", " + other + ")",
                        x.isAncestor(store, commit, other), want);
            }
        }
    }

    private static void ancestorsInTheClient() {
        CHECKS.sentence("for each ancestor that is not shallow in that store");
        FetchHouse x = crossed();
        x.fetch(0, 2, true);
        ancestorsDue(x, CLIENT, new int[][] {{}, {}, {2}, {}, {4}, {2, 4, 5}});
        x.setRef(SERVER, 1, 3);
        x.fetch(1, 0, true);
        CHECKS.due("4 has its parent 3, but not 1", x.isShallow(4), true);
        ancestorsDue(x, CLIENT, new int[][] {{}, {}, {2}, {3}, {4}, {2, 4, 5}});
        x.setRef(SERVER, 1, 1);
        x.fetch(1, 1, true);
        CHECKS.due("4 has both", x.isShallow(4), false);
        ancestorsDue(x, CLIENT, new int[][] {{}, {1}, {1, 2}, {3}, {1, 3, 4}, {1, 2, 3, 4, 5}});
        x.fetch(1, 0, true);
        ancestorsDue(x, CLIENT, new int[][] {{0}, {0, 1}, {0, 1, 2}, {3}, {0, 1, 3, 4}, {0, 1, 2, 3, 4, 5}});
    }

    private static void shallow() {
        CHECKS.promise("Promise 18: isShallow");
        CHECKS.sentence("A commit that the client has is shallow as long as the client does not have all of its parents");
        FetchHouse x = line(SERVER, 2);
        CHECKS.due("one that the client does not have", x.isShallow(2), false);
        x.fetch(0, 1, true);
        CHECKS.due("without its parent", x.isShallow(2), true);
        CHECKS.due("the parent that is not there", x.isShallow(1), false);
        x.make(CLIENT, 2, NONE, 0, NONE);
        CHECKS.due("a child of it", x.isShallow(3), false);
        x.setRef(SERVER, 1, 0);
        x.fetch(1, 0, true);
        CHECKS.due("with a grandparent", x.isShallow(2), true);
        CHECKS.due("without parents", x.isShallow(0), false);
        x.fetch(0, 2, true);
        CHECKS.due("with its parent", x.isShallow(2), false);
        CHECKS.due("the parent with its own", x.isShallow(1), false);
        x.setRef(CLIENT, 1, 3);
        keepOnly(x, 0);
        CHECKS.due("dropped", x.isShallow(2), false);
        x.fetch(0, 1, true);
        CHECKS.due("fetched again", x.isShallow(2), true);
    }

    /** 2 on 0 and 1: the client has 2 and one or both of them. */
    private static void halfShallow() {
        boolean[] bools = {false, true};
        for (boolean first : bools) {
            for (boolean second : bools) {
                FetchHouse x = new FetchHouse();
                x.make(SERVER, NONE, NONE, 0, 0);
                x.make(SERVER, NONE, NONE, 0, 1);
                x.make(SERVER, 0, 1, 0, 2);
                x.setRef(SERVER, 0, 2);
                x.setRef(SERVER, 1, first ? 0 : 2);
                x.setRef(SERVER, 2, second ? 1 : 2);
                x.fetch(1, 1, true);
                x.fetch(2, 1, true);
                x.fetch(0, 1, true);
                String what = "with first " + first + " and second " + second;
                CHECKS.due("isShallow(2) " + what, x.isShallow(2), !(first && second));
                CHECKS.due("isAncestor(1, 0, 2) " + what, x.isAncestor(CLIENT, 0, 2), first && second);
                CHECKS.due("isAncestor(1, 1, 2) " + what, x.isAncestor(CLIENT, 1, 2), first && second);
                CHECKS.due("isAncestor(1, 2, 2) " + what, x.isAncestor(CLIENT, 2, 2), true);
            }
        }
    }

    // ---- talking

    private static void toldByFallingNumbers() {
        CHECKS.promise("Promise 8: rounds");
        CHECKS.sentence("by falling numbers");
        for (int last = 0; last <= 12; last++) {
            FetchHouse x = line(SERVER, last);
            x.fetch(0, 0, true);
            x.fetch(0, 0, true);
            CHECKS.due("the last one tells of all " + (last + 1), x.rounds(), 1);
        }
        FetchHouse x = line(CLIENT, 4);
        push(x, 0, NONE, 0);
        x.fetch(0, 0, true);
        CHECKS.due("the first one tells of itself alone, and is told last", x.rounds(), 2);
    }

    /** 0 <- 4 and others; the server has 4, the client tells 4, 3, 2, 1 in one round, so 0 is common after it. */
    private static void toldInWholeRounds() {
        CHECKS.sentence("When a round is told, the server answers which of them it has");
        FetchHouse x = new FetchHouse();
        for (int commit = 0; commit <= 3; commit++) {
            x.make(CLIENT, NONE, NONE, 0, NONE);
        }
        x.make(CLIENT, 3, 0, 0, NONE);
        push(x, 0, NONE, 4);
        x.fetch(0, 0, true);
        CHECKS.due("0 is common after the first round", x.rounds(), 1);
        FetchHouse y = new FetchHouse();
        for (int commit = 0; commit <= 3; commit++) {
            y.make(CLIENT, NONE, NONE, 0, NONE);
        }
        y.make(CLIENT, 3, 2, 0, NONE);
        push(y, 0, NONE, 4);
        y.fetch(0, 0, true);
        CHECKS.due("3 and 2 are told though 4 is, so 0 is left for the second", y.rounds(), 2);
    }

    private static void commonAreAncestorsInTheClient() {
        CHECKS.sentence("these and all of their ancestors in the client are common");
        FetchHouse x = line(SERVER, 6);
        x.setRef(SERVER, 1, 2);
        x.fetch(1, 0, true);
        x.fetch(0, 1, true);
        x.fetch(0, 1, true);
        CHECKS.due("6, 2, 1 and 0", x.rounds(), 1);
        x.make(CLIENT, NONE, NONE, 0, NONE);
        x.fetch(0, 1, true);
        CHECKS.due("7, 6, 2 and 1, and 0 is 1's parent", x.rounds(), 1);
        x.make(CLIENT, NONE, NONE, 0, NONE);
        x.make(CLIENT, NONE, NONE, 0, NONE);
        x.fetch(0, 1, true);
        CHECKS.due("9, 8, 7 and 6, then 2: in the client 6 ends at itself", x.rounds(), 2);
        x.fetch(0, 0, true);
        x.fetch(0, 0, true);
        CHECKS.due("9, 8, 7 and 6: all others are 6's ancestors now", x.rounds(), 1);
    }

    private static void notToldAgain() {
        CHECKS.sentence("The talk is over when there is nothing to tell any more");
        FetchHouse x = line(CLIENT, 7);
        push(x, 0, NONE, 7);
        for (int own = 0; own <= 9; own++) {
            x.fetch(0, 0, true);
            CHECKS.due("rounds with " + own + " that the server lacks", x.rounds(), own / 4 + 1);
            x.make(CLIENT, own == 0 ? NONE : 7 + own, NONE, 0, NONE);
        }
    }

    private static void tellsWhatItHadBefore() {
        CHECKS.sentence("In a talk the client tells the commits that it has");
        FetchHouse x = line(SERVER, 8);
        CHECKS.due("fetch", x.fetch(0, 1, true), 1);
        CHECKS.due("with none", x.rounds(), 0);
        CHECKS.due("fetch", x.fetch(0, 2, true), 1);
        CHECKS.due("with one", x.rounds(), 1);
        Checks.thrownBy(() -> x.fetch(1, 0, true));
        x.wouldFetch(0, 0);
        push(x, 0, 8, 8);
        x.load(8);
        x.collect(CLIENT);
        CHECKS.due("what is no talk leaves them", x.rounds(), 1);
        x.setRef(CLIENT, 0, NONE);
        x.collect(CLIENT);
        CHECKS.due("collecting, too", x.rounds(), 1);
        x.fetch(0, 1, true);
        CHECKS.due("with none again", x.rounds(), 0);
    }

    // ---- fetching

    private static void reach() {
        CHECKS.promise("Promise 6: fetch");
        CHECKS.sentence("to which one can come from it by less than the depth of steps, each from a commit to a parent");
        reachDue("by two ways of one length", 6, TermsTest::crossed, 1, 3, 5, 6);
        FetchHouse x = crossed();
        x.fetch(0, 2, true);
        heldDue(x, CLIENT, 2, 4, 5);
        x.fetch(0, 3, true);
        heldDue(x, CLIENT, 1, 2, 3, 4, 5);
        reachDue("by the second parent sooner", 6, TermsTest::soonerBySecond, 1, 3, 5, 6);
        reachDue("by the first parent sooner", 6, TermsTest::soonerByFirst, 1, 3, 5, 6);
        FetchHouse second = soonerBySecond();
        second.fetch(0, 3, true);
        heldDue(second, CLIENT, 0, 1, 3, 4, 5);
        FetchHouse first = soonerByFirst();
        first.fetch(0, 3, true);
        heldDue(first, CLIENT, 0, 1, 3, 4, 5);
    }

    /** 0 <- 1 <- 2 <- 3 <- 4 <- 5, and 5's second parent is 1. */
    private static FetchHouse soonerBySecond() {
        FetchHouse x = line(SERVER, 4);
        x.make(SERVER, 4, 1, 0, NONE);
        x.setRef(SERVER, 0, 5);
        return x;
    }

    private static FetchHouse soonerByFirst() {
        FetchHouse x = line(SERVER, 4);
        x.make(SERVER, 1, 4, 0, NONE);
        x.setRef(SERVER, 0, 5);
        return x;
    }

    /** The numbers are due with the depths from 1 on; with each other depth it is all. */
    private static void reachDue(String what, int all, Supplier<FetchHouse> start, int... due) {
        for (int depth = 0; depth <= 60; depth++) {
            int want = depth == 0 || depth > due.length ? all : due[depth - 1];
            CHECKS.due("fetch " + what + " with depth " + depth, start.get().fetch(0, depth, true), want);
            CHECKS.due("wouldFetch " + what + " with depth " + depth, start.get().wouldFetch(0, depth), want);
        }
    }

    private static void heldDue(FetchHouse x, int store, int... held) {
        for (int commit = 0; commit < x.commits(); commit++) {
            boolean want = false;
            for (int each : held) {
                want |= each == commit;
            }
            CHECKS.due("has(" + store + ", " + commit + ")", x.has(store, commit), want);
        }
    }

    private static void getsWhatIsNotCommon() {
        CHECKS.sentence("the client gets those commits of the reach of the server's commit for the ref that are not common");
        FetchHouse x = line(SERVER, 5);
        x.setRef(SERVER, 1, 3);
        CHECKS.due("3 alone", x.fetch(1, 1, true), 1);
        CHECKS.due("5 and 4", x.fetch(0, 3, true), 2);
        heldDue(x, CLIENT, 3, 4, 5);
        CHECKS.due("2", x.fetch(0, 4, true), 1);
        CHECKS.due("less deep", x.fetch(0, 1, true), 0);
        heldDue(x, CLIENT, 2, 3, 4, 5);
        x.make(CLIENT, 5, NONE, 0, NONE);
        CHECKS.due("with one of its own", x.fetch(0, 0, true), 2);
        heldDue(x, CLIENT, 0, 1, 2, 3, 4, 5, 6);
        heldDue(x, SERVER, 0, 1, 2, 3, 4, 5);
    }

    private static void filesOfWhatItGets() {
        CHECKS.sentence("with files, all files of these commits that the server has");
        FetchHouse x = line(SERVER, 3);
        x.fetch(0, 2, false);
        CHECKS.due("no file without files", x.hasFile(CLIENT, 3) || x.hasFile(CLIENT, 2), false);
        x.fetch(0, 3, true);
        CHECKS.due("of the one that comes", x.hasFile(CLIENT, 1), true);
        CHECKS.due("of those that are common", x.hasFile(CLIENT, 3) || x.hasFile(CLIENT, 2), false);
        CHECKS.due("of one out of reach", x.hasFile(CLIENT, 0), false);
        x.fetch(0, 3, true);
        CHECKS.due("nothing comes by the same", x.hasFile(CLIENT, 3), false);
        FetchHouse y = new FetchHouse();
        y.make(SERVER, NONE, NONE, 0, 0);
        y.make(SERVER, 0, NONE, 1, 99);
        y.make(SERVER, 1, NONE, 2, NONE);
        y.setRef(SERVER, 0, 2);
        y.fetch(0, 1, true);
        CHECKS.due("files that it has from its parents", y.hasFile(CLIENT, 0) && y.hasFile(CLIENT, 99), true);
        FetchHouse z = line(SERVER, 0);
        z.fetch(0, 0, false);
        z.setRef(SERVER, 0, NONE);
        z.collect(SERVER);
        push(z, 0, NONE, 0);
        z.setRef(CLIENT, 0, NONE);
        z.collect(CLIENT);
        z.fetch(0, 0, true);
        CHECKS.due("a file that the server lacks", z.hasFile(CLIENT, 0), false);
    }

    private static void theClientsRef() {
        CHECKS.sentence("the client's ref of that number is for that commit then");
        for (int ref = 0; ref <= 3; ref++) {
            FetchHouse x = line(SERVER, 2);
            x.setRef(SERVER, ref, 2);
            x.fetch(ref, 1, false);
            for (int each = 0; each <= 3; each++) {
                CHECKS.due("ref(1, " + each + ")", x.ref(CLIENT, each), each == ref ? 2 : NONE);
            }
            x.fetch(ref, 0, true);
            x.setRef(SERVER, ref, 0);
            CHECKS.due("nothing comes", x.fetch(ref, 0, true), 0);
            CHECKS.due("ref(1, " + ref + ") all the same", x.ref(CLIENT, ref), 0);
            CHECKS.due("ref(0, " + ref + ")", x.ref(SERVER, ref), 0);
        }
    }

    private static void theServersRef() {
        CHECKS.sentence("Throws IllegalStateException if the server's ref is for none");
        Supplier<FetchHouse> set = () -> {
            FetchHouse x = line(SERVER, 2);
            x.fetch(0, 0, true);
            x.setRef(SERVER, 0, NONE);
            return x;
        };
        Supplier<FetchHouse> pushed = () -> {
            FetchHouse x = line(SERVER, 2);
            x.fetch(0, 0, true);
            push(x, 0, 2, NONE);
            return x;
        };
        CHECKS.refused("fetch of one set to NONE", STATE, set, x -> x.fetch(0, 0, true));
        CHECKS.refused("fetch of one pushed to NONE", STATE, pushed, x -> x.fetch(0, 1, false));
        CHECKS.refused("wouldFetch of one set to NONE", STATE, set, x -> x.wouldFetch(0, 0));
        CHECKS.refused("wouldFetch of one pushed to NONE", STATE, pushed, x -> x.wouldFetch(0, 1));
        CHECKS.due("the client's stays", set.get().ref(CLIENT, 0) + 10 * pushed.get().ref(CLIENT, 0), 22);
    }

    private static void loadedBefore() {
        CHECKS.promise("Promise 9: load");
        CHECKS.sentence("Returns true if the client did not have it");
        FetchHouse x = line(SERVER, 2);
        x.make(CLIENT, NONE, NONE, 0, 1);
        CHECKS.due("made by itself", x.load(1), false);
        x.fetch(0, 1, true);
        CHECKS.due("fetched", x.load(2), false);
        CHECKS.due("neither", x.load(0), true);
        CHECKS.due("loaded", x.load(0), false);
        x.collect(CLIENT);
        CHECKS.due("dropped", x.load(0), true);
        CHECKS.due("kept", x.load(2), false);
    }

    private static void missingFiles() {
        CHECKS.promise("Promise 10: missing");
        CHECKS.sentence("how many files the commits of the client have that it lacks");
        FetchHouse x = new FetchHouse();
        x.make(SERVER, NONE, NONE, 0, 0);
        x.make(SERVER, 0, NONE, 1, 0);
        x.make(SERVER, 1, NONE, 2, 99);
        x.make(SERVER, NONE, NONE, 3, 50);
        x.setRef(SERVER, 0, 2);
        CHECKS.due("without commits", x.missing(), 0);
        x.fetch(0, 1, false);
        CHECKS.due("0 in two slots, and 99", x.missing(), 2);
        x.fetch(0, 0, false);
        CHECKS.due("the same in three commits", x.missing(), 2);
        x.load(50);
        CHECKS.due("with one that no commit has", x.missing(), 2);
        x.load(0);
        CHECKS.due("without 0", x.missing(), 1);
        x.load(99);
        CHECKS.due("without 99", x.missing(), 0);
        x.collect(CLIENT);
        CHECKS.due("files of its commits stay", x.missing(), 0);
    }

    // ---- pushing and collecting

    private static void pushedAncestors() {
        CHECKS.promise("Promise 13: push");
        CHECKS.sentence("With all of them the server gets the ancestors, in the client, of the new commits");
        FetchHouse x = new FetchHouse();
        x.make(CLIENT, NONE, NONE, 0, 0);
        x.make(CLIENT, 0, NONE, 0, 1);
        x.make(CLIENT, NONE, NONE, 0, 2);
        x.make(CLIENT, 1, 2, 0, 3);
        x.make(CLIENT, 3, NONE, 0, 4);
        CHECKS.due("the first", push(x, 0, NONE, 0), 1);
        heldDue(x, SERVER, 0);
        CHECKS.due("by both parents", push(x, 0, 0, 3), 3);
        heldDue(x, SERVER, 0, 1, 2, 3);
        CHECKS.due("to a parent", push(x, 0, 3, 2), 0);
        heldDue(x, SERVER, 0, 1, 2, 3);
        x.move(0, 2, NONE);
        x.move(1, NONE, NONE);
        CHECKS.due("to none", x.push(), 0);
        heldDue(x, SERVER, 0, 1, 2, 3);
        x.move(1, NONE, 4);
        x.move(2, NONE, 4);
        x.move(3, NONE, 3);
        CHECKS.due("each counts once", x.push(), 1);
        heldDue(x, CLIENT, 0, 1, 2, 3, 4);
        CHECKS.due("the client's refs stay", x.ref(CLIENT, 0) + x.ref(CLIENT, 1) + x.ref(CLIENT, 2), 3 * NONE);
    }

    private static void pushedFiles() {
        CHECKS.sentence("of all these ancestors, whether it had them or not, the files that the client has");
        Supplier<FetchHouse> start = () -> {
            FetchHouse x = line(SERVER, 2);
            x.fetch(0, 0, false);
            x.setRef(SERVER, 0, NONE);
            x.collect(SERVER);
            push(x, 0, NONE, 2);
            x.make(CLIENT, NONE, NONE, 3, 0);
            x.make(CLIENT, NONE, NONE, 2, 2);
            return x;
        };
        FetchHouse x = start.get();
        CHECKS.due("the server lacks all", x.hasFile(SERVER, 0) || x.hasFile(SERVER, 1) || x.hasFile(SERVER, 2), false);
        CHECKS.due("the push of what it had", push(x, 0, 2, 1), 0);
        CHECKS.due("an ancestor's that the client has", x.hasFile(SERVER, 0), true);
        CHECKS.due("one that the client lacks", x.hasFile(SERVER, 1), false);
        CHECKS.due("a descendant's", x.hasFile(SERVER, 2), false);
        FetchHouse y = start.get();
        CHECKS.due("a push to none brings no files", push(y, 0, 2, NONE), 0);
        CHECKS.due("hasFile(0, 0) or hasFile(0, 2)", y.hasFile(SERVER, 0) || y.hasFile(SERVER, 2), false);
        FetchHouse z = start.get();
        CHECKS.due("a refused push", push(z, 0, 1, 2), STALE);
        CHECKS.due("brings no files", z.hasFile(SERVER, 0) || z.hasFile(SERVER, 2), false);
        FetchHouse behind = line(SERVER, 2);
        behind.make(CLIENT, NONE, NONE, 0, 50);
        behind.make(SERVER, NONE, NONE, 0, 1);
        behind.fetch(0, 1, true);
        CHECKS.due("a push of a shallow one that the server has", push(behind, 1, NONE, 2), 0);
        CHECKS.due("the client's other files", behind.hasFile(SERVER, 50), false);
    }

    private static void allMovesOrNone() {
        CHECKS.sentence("To push does all of them, or none, if there is a refusal");
        FetchHouse x = line(CLIENT, 2);
        x.move(0, NONE, 0);
        x.move(1, NONE, 1);
        x.move(2, NONE, 2);
        CHECKS.due("all", x.push(), 3);
        CHECKS.due("refs", x.ref(SERVER, 0) + 10 * x.ref(SERVER, 1) + 100 * x.ref(SERVER, 2), 210);
        CHECKS.due("none waits", x.push(), 0);
        for (int wrong = 0; wrong < 3; wrong++) {
            FetchHouse y = line(CLIENT, 2);
            for (int at = 0; at < 3; at++) {
                y.move(at, at == wrong ? 0 : NONE, at);
            }
            CHECKS.due("one that is refused", y.push(), STALE);
            CHECKS.due("none waits", y.push(), 0);
            CHECKS.due("the next is the first", y.move(0, NONE, 0), 1);
            heldDue(y, SERVER);
            for (int ref = 0; ref <= 3; ref++) {
                CHECKS.due("ref(0, " + ref + ")", y.ref(SERVER, ref), NONE);
            }
        }
    }

    private static void collectedByAllRefs() {
        CHECKS.promise("Promise 14: collect");
        CHECKS.sentence("commits that are no ancestors of a commit of one of its refs are dropped");
        for (int store = SERVER; store <= CLIENT; store++) {
            for (int ref = 0; ref <= 3; ref++) {
                FetchHouse x = new FetchHouse();
                for (int commit = 0; commit <= 4; commit++) {
                    x.make(store, commit == 3 ? NONE : commit - 1, NONE, 0, commit);
                }
                x.setRef(store, ref, 1);
                CHECKS.due("with ref " + ref + " alone", x.collect(store), 3);
                heldDue(x, store, 0, 1);
                CHECKS.due("the ref", x.ref(store, ref), 1);
            }
            FetchHouse x = new FetchHouse();
            for (int commit = 0; commit <= 4; commit++) {
                x.make(store, NONE, NONE, 0, commit);
                x.setRef(store, Math.min(commit, 3), commit);
            }
            CHECKS.due("with four refs", x.collect(store), 1);
            heldDue(x, store, 0, 1, 2, 4);
        }
        FetchHouse x = line(SERVER, 3);
        x.fetch(0, 0, true);
        keepOnly(x, 1);
        x.fetch(0, 1, true);
        x.setRef(CLIENT, 3, NONE);
        CHECKS.due("what lies behind a shallow end", x.collect(CLIENT), 2);
        heldDue(x, CLIENT, 3);
        CHECKS.due("the shallow one stays so", x.isShallow(3), true);
    }

    private static void collectedFiles() {
        CHECKS.sentence("and files that no commit that it still has has in a slot");
        FetchHouse x = new FetchHouse();
        x.make(SERVER, NONE, NONE, 0, 0);
        x.make(SERVER, 0, NONE, 3, 99);
        x.make(SERVER, 1, NONE, 0, 50);
        x.make(SERVER, NONE, NONE, 1, 51);
        x.make(SERVER, NONE, NONE, 2, 50);
        x.setRef(SERVER, 2, 1);
        CHECKS.due("collect(0)", x.collect(SERVER), 3);
        CHECKS.due("in the first slot", x.hasFile(SERVER, 0), true);
        CHECKS.due("in the last slot", x.hasFile(SERVER, 99), true);
        CHECKS.due("of dropped ones", x.hasFile(SERVER, 50) || x.hasFile(SERVER, 51), false);
        x.make(CLIENT, NONE, NONE, 0, 51);
        CHECKS.due("the other store's stay", x.hasFile(CLIENT, 51), true);
        x.setRef(CLIENT, 0, 5);
        x.load(0);
        CHECKS.due("no commit is dropped", x.collect(CLIENT), 0);
        CHECKS.due("a loaded one that no commit has", x.hasFile(CLIENT, 0), false);
        CHECKS.due("the commit's own", x.hasFile(CLIENT, 51), true);
    }
}
