import java.util.ArrayList;
import java.util.List;
import java.util.Objects;
import java.util.function.Consumer;
import java.util.function.Function;
import java.util.function.Supplier;

/** Asks for answers, prints each that is not the one that is due, and counts. */
final class Checks {
    private static final int NONE = -1, STORES = 2, REFS = 4, SLOTS = 4, FILES = 100, MOST_MOVES = 3;

    private String promise = "";
    private String sentence = "";
    private int asked;
    private int wrong;

    void promise(String name) {
        promise = name;
        sentence = "";
    }

    /** The document's words that the next answers are asked for. */
    void sentence(String words) {
        sentence = " \"" + words + "\"";
    }

    void due(String what, Object got, Object want) {
        asked++;
        if (!Objects.equals(got, want)) {
            wrong++;
            System.out.println(promise + sentence + ": " + what + " answered " + got + ", due is " + want);
        }
    }

    /** The call throws, and the object answers all questions then as one on which it was not called. */
    void refused(String what, Class<?> want, Supplier<FetchHouse> start, Consumer<FetchHouse> call) {
        unchanged(what, start, x -> due(what + " throws", thrownBy(() -> call.accept(x)), want));
    }

    /** The call changes no answer of the object. */
    void asksOnly(String what, Supplier<FetchHouse> start, Function<FetchHouse, Object> question) {
        FetchHouse called = start.get();
        Object first = question.apply(called);
        due(what + " asked again", question.apply(called), first);
        unchanged(what, start, x -> due(what + " of a like object", question.apply(x), first));
    }

    /** Whatever the call answers, the object is then as one on which it was not called. */
    void unchanged(String what, Supplier<FetchHouse> start, Consumer<FetchHouse> call) {
        Supplier<FetchHouse> called = () -> {
            FetchHouse x = start.get();
            call.accept(x);
            return x;
        };
        due("the state after " + what, stateOf(called), stateOf(start));
    }

    static Class<?> thrownBy(Runnable call) {
        try {
            call.run();
            return null;
        } catch (RuntimeException thrown) {
            return thrown.getClass();
        }
    }

    /** What such an object answers: each look at one of its own, as all looks together are more than 512 calls. */
    static List<Object> stateOf(Supplier<FetchHouse> start) {
        List<Object> state = new ArrayList<>();
        lookAtStores(start.get(), state);
        lookAtCommits(start.get(), state);
        lookAtRow(start.get(), state);
        lookAtPush(start.get(), state);
        return state;
    }

    private static void lookAtStores(FetchHouse x, List<Object> state) {
        int made = x.commits();
        state.add("made " + made + " rounds " + x.rounds() + " missing " + x.missing());
        for (int store = 0; store < STORES; store++) {
            for (int ref = 0; ref < REFS; ref++) {
                state.add("ref " + store + " " + ref + " " + x.ref(store, ref));
            }
            lookAtHeld(x, made, store, state);
        }
        for (int commit = 0; commit < made; commit++) {
            state.add("isShallow " + commit + " " + x.isShallow(commit));
        }
    }

    private static void lookAtHeld(FetchHouse x, int made, int store, List<Object> state) {
        for (int commit = 0; commit < made; commit++) {
            if (x.has(store, commit)) {
                state.add("has " + store + " " + commit);
            }
        }
        for (int file = 0; file < FILES; file++) {
            if (x.hasFile(store, file)) {
                state.add("hasFile " + store + " " + file);
            }
        }
    }

    private static void lookAtCommits(FetchHouse x, List<Object> state) {
        int made = x.commits();
        for (int commit = 0; commit < made; commit++) {
            for (int slot = 0; slot < SLOTS; slot++) {
                state.add("fileAt " + commit + " " + slot + " " + x.fileAt(commit, slot));
            }
            for (int store = 0; store < STORES; store++) {
                state.add("isAncestor " + store + " " + commit + " " + x.isAncestor(store, commit, made - 1));
            }
        }
        for (int ref = 0; ref < REFS; ref++) {
            if (x.ref(0, ref) != NONE) {
                state.add("wouldFetch " + ref + " " + x.wouldFetch(ref, 0) + " " + x.wouldFetch(ref, 1));
            }
        }
    }

    /** How many moves wait, and, by the pushes of them, what they and the protected refs are. */
    private static void lookAtRow(FetchHouse x, List<Object> state) {
        int more = 0;
        while (more <= MOST_MOVES && thrownBy(() -> x.move(0, x.ref(0, 0), x.ref(0, 0))) == null) {
            more++;
        }
        state.add("moves that found room " + more);
        state.add("push " + x.push());
        for (int ref = 0; ref < REFS; ref++) {
            state.add("protect " + ref + " " + x.protect(ref, true));
        }
    }

    private static void lookAtPush(FetchHouse x, List<Object> state) {
        state.add("push " + x.push());
        for (int ref = 0; ref < REFS; ref++) {
            state.add("ref after the push " + ref + " " + x.ref(0, ref));
        }
        lookAtHeld(x, x.commits(), 0, state);
        state.add("push again " + x.push());
    }

    void end() {
        System.out.println(asked + " answers asked, " + wrong + " not as due");
        if (wrong != 0 || asked == 0) {
            System.exit(1);
        }
    }
}
