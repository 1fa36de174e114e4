import java.util.ArrayList;
import java.util.List;
import java.util.Set;
import java.util.TreeSet;
import java.util.function.Supplier;

/** Promise 13's refusals: where each begins and ends, which is returned if several apply, and what is left then. */
public final class RefusalsTest {
    private static final int NONE = FetchHouse.NONE, SERVER = FetchHouse.SERVER, CLIENT = FetchHouse.CLIENT;
    private static final int STALE = FetchHouse.STALE, BACK = FetchHouse.BACK, LACKING = FetchHouse.LACKING;
    private static final int DONE = 0;

    private static final Checks CHECKS = new Checks();

    /** A move in town(), its answer as the only one, and the commits that the server gets by it. */
    private record Move(int due, int ref, int old, int its, Integer... gets) { }

    private static final List<Move> MOVES = List.of(
            new Move(DONE, 0, 1, 3, 3),
            new Move(DONE, 1, 1, 4, 4),
            new Move(DONE, 1, 1, NONE),
            new Move(DONE, 2, NONE, 9, 3, 4, 9),
            new Move(DONE, 3, NONE, 0),
            new Move(LACKING, 1, 1, 5),
            new Move(LACKING, 2, NONE, 8),
            new Move(LACKING, 3, NONE, 7),
            new Move(BACK, 0, 1, 4),
            new Move(BACK, 0, 1, NONE),
            new Move(BACK, 0, 1, 5),
            new Move(BACK, 0, 1, 8),
            new Move(STALE, 3, 0, 0),
            new Move(STALE, 0, NONE, 3),
            new Move(STALE, 1, 0, 5),
            new Move(STALE, 0, NONE, 8),
            new Move(STALE, 0, 2, 4),
            new Move(STALE, 2, 1, NONE),
            new Move(STALE, 0, 2, 5),
            new Move(STALE, 2, 1, 7));

    public static void main(String[] args) {
        CHECKS.promise("Promise 13: push");
        noMoves();
        staleWhenTheRefIsForAnother();
        notStaleWhenTheRefIsForTheOneTold();
        staleByTheServersRefAlone();
        backOnlyIfProtected();
        backNotFromNone();
        backToNone();
        backToWhatTheClientLacks();
        backFromWhatTheClientLacks();
        backToTheSame();
        backAcrossAShallowOne();
        lackingWhatTheClientLacks();
        notLackingNone();
        lackingAShallowAncestor();
        notLackingAShallowAncestorThatTheServerHas();
        lackingOneShallowAncestorOfTwo();
        notLackingWhatIsNoAncestor();
        askedAheadOfAll();
        rows();
        CHECKS.end();
    }

    /**
     * The server has 0 <- 1 <- 2, and 5 <- 6; refs 0 and 1 are for 1, refs 2 and 3 for none, and 0 and 2 are protected.
     * The client has 0, 1, 2, and 3 on 2, and 4 alone, and 7 (whose parent 6 it lacks, and the server lacks 7), and 8 on
     * 7, and 9 on 3 and 4.
     */
    private static FetchHouse town() {
        FetchHouse x = new FetchHouse();
        x.make(SERVER, NONE, NONE, 0, 0);
        x.make(SERVER, 0, NONE, 0, 1);
        x.make(SERVER, 1, NONE, 0, 2);
        x.setRef(SERVER, 0, 2);
        x.fetch(0, 0, true);
        x.make(CLIENT, 2, NONE, 0, 3);
        x.make(CLIENT, NONE, NONE, 1, 4);
        x.make(SERVER, NONE, NONE, 0, 5);
        x.make(SERVER, 5, NONE, 0, 6);
        x.make(SERVER, 6, NONE, 0, 7);
        x.setRef(SERVER, 1, 7);
        x.fetch(1, 1, true);
        x.setRef(SERVER, 1, 6);
        x.collect(SERVER);
        x.make(CLIENT, 7, NONE, 0, 8);
        x.make(CLIENT, 3, 4, 2, 9);
        x.setRef(SERVER, 0, 1);
        x.setRef(SERVER, 1, 1);
        x.protect(0, true);
        x.protect(2, true);
        return x;
    }

    private static int push(FetchHouse x, int ref, int old, int its) {
        x.move(ref, old, its);
        return x.push();
    }

    private static void pushDue(String what, Supplier<FetchHouse> start, int ref, int old, int its, int want) {
        String call = what + ": the push of " + ref + " " + old + " " + its;
        if (want < 0) {
            CHECKS.unchanged(call, start, x -> CHECKS.due(call, push(x, ref, old, its), want));
        } else {
            FetchHouse x = start.get();
            CHECKS.due(call, push(x, ref, old, its), want);
            CHECKS.due("the ref after " + call, x.ref(SERVER, ref), its);
        }
    }

    private static void noMoves() {
        CHECKS.sentence("Pushes the moves that wait");
        CHECKS.unchanged("no moves in a new one", FetchHouse::new, x -> CHECKS.due("push()", x.push(), 0));
        CHECKS.unchanged("no moves", RefusalsTest::town, x -> CHECKS.due("push()", x.push(), 0));
    }

    private static void staleWhenTheRefIsForAnother() {
        CHECKS.sentence("STALE, the server's ref is for another one than is told");
        for (int ref = 0; ref <= 3; ref++) {
            int its = ref < 2 ? 1 : NONE;
            for (int old = NONE; old <= 9; old++) {
                if (old != its) {
                    pushDue("told another", RefusalsTest::town, ref, old, 3, STALE);
                    pushDue("told another", RefusalsTest::town, ref, old, NONE, STALE);
                    pushDue("told another, to the one that it is for", RefusalsTest::town, ref, old, its, STALE);
                }
            }
        }
    }

    private static void notStaleWhenTheRefIsForTheOneTold() {
        pushDue("a protected ref", RefusalsTest::town, 0, 1, 3, 1);
        pushDue("a ref", RefusalsTest::town, 1, 1, 3, 1);
        pushDue("a protected ref that is for none", RefusalsTest::town, 2, NONE, 3, 1);
        pushDue("a ref that is for none", RefusalsTest::town, 3, NONE, 3, 1);
    }

    private static void staleByTheServersRefAlone() {
        Supplier<FetchHouse> start = () -> {
            FetchHouse x = town();
            x.setRef(CLIENT, 1, 3);
            return x;
        };
        pushDue("told the client's", start, 1, 3, 4, STALE);
        pushDue("told the server's", start, 1, 1, 4, 1);
        pushDue("asked as it is at the push, not at the move", () -> {
            FetchHouse x = town();
            x.setRef(SERVER, 1, 0);
            return x;
        }, 1, 1, 4, STALE);
        FetchHouse x = town();
        x.move(1, 0, 4);
        x.setRef(SERVER, 1, 0);
        CHECKS.due("set right while the move waits", x.push(), 1);
        x.move(1, 4, 0);
        x.setRef(SERVER, 1, NONE);
        CHECKS.due("set wrong while the move waits", x.push(), STALE);
    }

    private static void backOnlyIfProtected() {
        CHECKS.sentence("BACK, the ref is protected");
        pushDue("protected", RefusalsTest::town, 0, 1, 4, BACK);
        pushDue("not protected", RefusalsTest::town, 1, 1, 4, 1);
        Supplier<FetchHouse> other = () -> {
            FetchHouse x = town();
            x.protect(0, false);
            x.protect(1, true);
            return x;
        };
        pushDue("not protected any more", other, 0, 1, 4, 1);
        pushDue("protected now", other, 1, 1, 4, BACK);
        for (int ref = 0; ref <= 3; ref++) {
            for (int guarded = 0; guarded <= 3; guarded++) {
                int its = guarded;
                pushDue("each ref by itself", () -> {
                    FetchHouse x = new FetchHouse();
                    x.make(CLIENT, NONE, NONE, 0, NONE);
                    x.make(CLIENT, 0, NONE, 0, NONE);
                    for (int each = 0; each <= 3; each++) {
                        push(x, each, NONE, 1);
                    }
                    x.protect(its, true);
                    return x;
                }, ref, 1, 0, ref == guarded ? BACK : 0);
            }
        }
        FetchHouse x = town();
        x.move(1, 1, 4);
        x.protect(1, true);
        CHECKS.due("protected while the move waits", x.push(), BACK);
    }

    private static void backNotFromNone() {
        CHECKS.sentence("the commit for which it is told to be is not NONE");
        for (int its : new int[] {0, 1, 2}) {
            pushDue("from NONE", RefusalsTest::town, 2, NONE, its, 0);
        }
        pushDue("from NONE", RefusalsTest::town, 2, NONE, 4, 1);
        pushDue("from NONE to NONE", RefusalsTest::town, 2, NONE, NONE, 0);
    }

    private static void backToNone() {
        CHECKS.sentence("nothing is an ancestor of NONE");
        pushDue("protected", RefusalsTest::town, 0, 1, NONE, BACK);
        pushDue("not protected", RefusalsTest::town, 1, 1, NONE, 0);
    }

    private static void backToWhatTheClientLacks() {
        CHECKS.sentence("nothing is an ancestor of .. a commit that the client does not have");
        Supplier<FetchHouse> start = () -> {
            FetchHouse x = town();
            x.make(SERVER, 1, NONE, 0, NONE);
            return x;
        };
        pushDue("a child that only the server has", start, 0, 1, 10, BACK);
        pushDue("the same without protection is lacking", start, 1, 1, 10, LACKING);
        pushDue("one that nobody has any more", () -> {
            FetchHouse x = town();
            x.collect(CLIENT);
            return x;
        }, 0, 1, 3, BACK);
    }

    private static void backFromWhatTheClientLacks() {
        CHECKS.sentence("is no ancestor, in the client, of the one for which it is to be");
        Supplier<FetchHouse> start = () -> {
            FetchHouse x = town();
            x.setRef(SERVER, 0, 1);
            x.make(SERVER, 2, NONE, 0, NONE);
            x.setRef(SERVER, 0, 10);
            return x;
        };
        pushDue("from one that only the server has", start, 0, 10, 3, BACK);
        pushDue("from one that only the server has to its parent", start, 0, 10, 2, BACK);
        pushDue("to a parent", RefusalsTest::town, 0, 1, 0, BACK);
        pushDue("to a child", RefusalsTest::town, 0, 1, 2, 0);
        pushDue("to a grandchild", RefusalsTest::town, 0, 1, 3, 1);
        pushDue("by a first parent", RefusalsTest::town, 0, 1, 9, 3);
        pushDue("by a second parent", () -> {
            FetchHouse x = town();
            push(x, 3, NONE, 4);
            x.setRef(SERVER, 0, 4);
            return x;
        }, 0, 4, 9, 2);
    }

    private static void backToTheSame() {
        pushDue("to the same", RefusalsTest::town, 0, 1, 1, 0);
        pushDue("to the same, which the client lacks", () -> {
            FetchHouse x = town();
            x.setRef(CLIENT, 0, 0);
            x.collect(CLIENT);
            return x;
        }, 0, 1, 1, BACK);
    }

    /** The server's 0 <- 1 <- 2 <- 3, of which the client has 0, and 3 and 2 with 2 shallow. */
    private static FetchHouse gap() {
        FetchHouse x = new FetchHouse();
        for (int commit = 0; commit <= 3; commit++) {
            x.make(SERVER, commit - 1, NONE, 0, commit);
        }
        x.setRef(SERVER, 0, 0);
        x.setRef(SERVER, 3, 3);
        x.fetch(0, 0, true);
        x.fetch(3, 2, true);
        x.protect(0, true);
        x.protect(1, true);
        x.setRef(SERVER, 1, 2);
        return x;
    }

    private static void backAcrossAShallowOne() {
        pushDue("an ancestor in the server alone", RefusalsTest::gap, 0, 0, 3, BACK);
        pushDue("an ancestor on this side", RefusalsTest::gap, 1, 2, 3, 0);
        pushDue("after the gap is filled", () -> {
            FetchHouse x = gap();
            x.fetch(3, 0, false);
            return x;
        }, 0, 0, 3, 0);
    }

    private static void lackingWhatTheClientLacks() {
        CHECKS.sentence("LACKING, it is to be for a commit that the client does not have");
        pushDue("one that the server has", RefusalsTest::town, 1, 1, 5, LACKING);
        pushDue("one that the server has", RefusalsTest::town, 3, NONE, 6, LACKING);
        pushDue("one that the server has, and a ref is for", () -> {
            FetchHouse x = town();
            x.setRef(SERVER, 3, 5);
            return x;
        }, 3, 5, 5, LACKING);
        pushDue("one that nobody has", () -> {
            FetchHouse x = town();
            x.collect(CLIENT);
            return x;
        }, 3, NONE, 9, LACKING);
        FetchHouse x = town();
        x.move(3, NONE, 4);
        x.collect(CLIENT);
        CHECKS.due("dropped while the move waits", x.push(), LACKING);
    }

    private static void notLackingNone() {
        pushDue("to NONE from a commit", RefusalsTest::town, 1, 1, NONE, 0);
        pushDue("to NONE from NONE", RefusalsTest::town, 3, NONE, NONE, 0);
        pushDue("to NONE with an empty client", () -> {
            FetchHouse x = new FetchHouse();
            x.make(SERVER, NONE, NONE, 0, NONE);
            x.setRef(SERVER, 1, 0);
            return x;
        }, 1, 0, NONE, 0);
    }

    private static void lackingAShallowAncestor() {
        CHECKS.sentence("or some ancestor of that one in the client is shallow and not in the server");
        pushDue("it is shallow itself", RefusalsTest::town, 3, NONE, 7, LACKING);
        pushDue("its parent is", RefusalsTest::town, 3, NONE, 8, LACKING);
        Supplier<FetchHouse> merged = () -> {
            FetchHouse x = town();
            x.make(CLIENT, 9, 8, 0, NONE);
            x.make(CLIENT, 8, 9, 0, NONE);
            return x;
        };
        pushDue("by a second parent", merged, 3, NONE, 10, LACKING);
        pushDue("by a first parent", merged, 3, NONE, 11, LACKING);
    }

    private static void notLackingAShallowAncestorThatTheServerHas() {
        Supplier<FetchHouse> start = () -> {
            FetchHouse x = gap();
            x.make(CLIENT, 3, NONE, 0, NONE);
            return x;
        };
        pushDue("the shallow one itself", start, 2, NONE, 2, 0);
        pushDue("its child", start, 2, NONE, 3, 0);
        pushDue("a new child of that", start, 2, NONE, 4, 1);
        pushDue("it came back to the server", () -> {
            FetchHouse x = town();
            x.make(SERVER, NONE, NONE, 0, NONE);
            x.setRef(SERVER, 3, 6);
            x.fetch(3, 0, false);
            x.setRef(SERVER, 3, NONE);
            push(x, 3, NONE, 7);
            x.setRef(SERVER, 3, NONE);
            return x;
        }, 3, NONE, 8, 1);
    }

    /** 4 on 1 and 3, of which the client has 4 and 1, or 4 and 3: shallow with one parent of two. */
    private static FetchHouse halfShallow(int held) {
        FetchHouse x = new FetchHouse();
        x.make(SERVER, NONE, NONE, 0, 0);
        x.make(SERVER, 0, NONE, 0, 1);
        x.make(SERVER, NONE, NONE, 0, 2);
        x.make(SERVER, 2, NONE, 0, 3);
        x.make(SERVER, 1, 3, 0, 4);
        x.setRef(SERVER, 0, held);
        x.fetch(0, 0, true);
        x.setRef(SERVER, 0, 4);
        x.fetch(0, 1, true);
        x.setRef(SERVER, 0, NONE);
        return x;
    }

    private static void lackingOneShallowAncestorOfTwo() {
        for (int held : new int[] {1, 3}) {
            pushDue("with parent " + held + ", and in the server", () -> halfShallow(held), 2, NONE, 4, 0);
            pushDue("with parent " + held + ", and not in the server", () -> {
                FetchHouse x = halfShallow(held);
                x.collect(SERVER);
                return x;
            }, 2, NONE, 4, LACKING);
        }
    }

    private static void notLackingWhatIsNoAncestor() {
        pushDue("a shallow one beside it", RefusalsTest::town, 3, NONE, 4, 1);
        pushDue("a shallow descendant", () -> {
            FetchHouse x = gap();
            x.setRef(SERVER, 0, NONE);
            x.setRef(SERVER, 1, NONE);
            x.setRef(SERVER, 3, NONE);
            x.collect(SERVER);
            return x;
        }, 3, NONE, 0, 1);
        pushDue("what lies behind a shallow one that the server has", RefusalsTest::gap, 2, NONE, 3, 0);
    }

    private static void askedAheadOfAll() {
        CHECKS.sentence("moves of one ref are done in their order, each is asked as the server is ahead of all");
        rowDue("a second move that builds on the first", STALE, to(1, 1, 3), to(1, 3, 9));
        rowDue("a third that is as the first", 2, to(1, 1, 3), to(1, 1, 4), to(1, 1, 3));
        rowDue("two of one ref beside each other, protected", 3, to(0, 1, 3), to(0, 1, 9));
        rowDue("away from NONE and back to it", 1, to(3, NONE, 4), to(3, NONE, NONE));
        rowDue("to NONE and back to what it is for", 0, to(1, 1, NONE), to(1, 1, 1));
        rowDue("back is asked of what it is for, not of the move ahead", 3, to(0, 1, 9), to(0, 1, 2));
    }

    private static int[] to(int ref, int old, int its) {
        return new int[] {ref, old, its};
    }

    /** All moves of one ref: the last one counts if they are done. */
    private static void rowDue(String what, int want, int[]... moves) {
        FetchHouse x = town();
        int before = x.ref(SERVER, moves[0][0]);
        for (int[] move : moves) {
            x.move(move[0], move[1], move[2]);
        }
        CHECKS.due(what, x.push(), want);
        CHECKS.due("the ref after " + what, x.ref(SERVER, moves[0][0]), want < 0 ? before : moves[moves.length - 1][2]);
    }

    // ---- rows of moves

    private static void rows() {
        CHECKS.sentence("the first refusal that is found is returned");
        Supplier<FetchHouse> start = RefusalsTest::town;
        List<Object> before = Checks.stateOf(start);
        for (Move first : MOVES) {
            row(start, before, List.of(first));
            for (Move second : MOVES) {
                row(start, before, List.of(first, second));
                for (Move third : MOVES) {
                    row(start, before, List.of(first, second, third));
                }
            }
        }
    }

    private static int move(FetchHouse x, List<Move> row) {
        for (Move move : row) {
            x.move(move.ref(), move.old(), move.its());
        }
        return x.push();
    }

    private static void row(Supplier<FetchHouse> start, List<Object> before, List<Move> row) {
        FetchHouse x = start.get();
        int answer = move(x, row);
        int refusal = row.stream().mapToInt(Move::due).filter(due -> due != DONE).findFirst().orElse(DONE);
        if (refusal == DONE) {
            done(x, row, answer);
            return;
        }
        CHECKS.due("the push of " + row, answer, refusal);
        CHECKS.due("the state after the refused push of " + row, Checks.stateOf(() -> {
            FetchHouse y = start.get();
            move(y, row);
            return y;
        }), before);
    }

    private static void done(FetchHouse x, List<Move> row, int answer) {
        Set<Integer> gets = new TreeSet<>();
        int[] refs = {1, 1, NONE, NONE};
        for (Move move : row) {
            gets.addAll(List.of(move.gets()));
            refs[move.ref()] = move.its();
        }
        CHECKS.due("the push of " + row, answer, gets.size());
        for (int ref = 0; ref <= 3; ref++) {
            CHECKS.due("ref " + ref + " after " + row, x.ref(SERVER, ref), refs[ref]);
        }
        List<Integer> has = new ArrayList<>();
        for (int commit : new int[] {3, 4, 7, 8, 9}) {
            if (x.has(SERVER, commit)) {
                has.add(commit);
            }
        }
        CHECKS.due("new in the server after " + row, has, new ArrayList<>(gets));
        CHECKS.due("moves that wait after " + row, x.move(0, NONE, NONE), 1);
    }
}
