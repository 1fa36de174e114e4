import java.util.ArrayList;
import java.util.List;
import java.util.Objects;
import java.util.function.Consumer;
import java.util.function.Function;
import java.util.function.Supplier;

/** Asks for answers, prints each that is not the one that is due, and counts. */
final class Checks {
    private static final int REFS = 4, FILES = 100;

    private String promise = "";
    private int asked;
    private int wrong;

    void promise(String name) {
        promise = name;
    }

    void due(String what, Object got, Object want) {
        asked++;
        if (!Objects.equals(got, want)) {
            wrong++;
            System.out.println(promise + ": " + what + " answered " + got + ", due is " + want);
        }
    }

    /** The call throws, and the object answers all questions then as one on which it was not called. */
    void refused(String what, Class<?> want, Supplier<FetchHouse> start, Consumer<FetchHouse> call) {
        FetchHouse called = start.get();
        due(what + " throws", thrownBy(() -> call.accept(called)), want);
        due("after the refused " + what, stateOf(called), stateOf(start.get()));
    }

    /** The call changes no answer of the object. */
    void asksOnly(String what, Supplier<FetchHouse> start, Function<FetchHouse, Object> question) {
        FetchHouse called = start.get();
        Object first = question.apply(called);
        due(what + " asked again", question.apply(called), first);
        due("after the question " + what, stateOf(called), stateOf(start.get()));
    }

    static Class<?> thrownBy(Runnable call) {
        try {
            call.run();
            return null;
        } catch (RuntimeException thrown) {
            return thrown.getClass();
        }
    }

    /** What the object answers, by some 460 calls at most; it is spent then, as the last ones change it. */
    static List<Object> stateOf(FetchHouse x) {
        List<Object> state = new ArrayList<>();
        int made = x.commits();
        state.add("made " + made + " rounds " + x.rounds() + " missing " + x.missing());
        for (int store = 0; store <= 1; store++) {
            for (int ref = 0; ref < REFS; ref++) {
                state.add("ref " + store + " " + ref + " " + x.ref(store, ref));
            }
            for (int commit = 0; commit < made; commit++) {
                state.add("has " + store + " " + commit + " " + x.has(store, commit));
            }
            for (int file = 0; file < FILES; file++) {
                state.add("hasFile " + store + " " + file + " " + x.hasFile(store, file));
            }
        }
        for (int commit = 0; commit < made; commit++) {
            state.add("isShallow " + commit + " " + x.isShallow(commit));
        }
        for (int slot = 0; slot < 4 && made > 0; slot++) {
            state.add("fileAt last " + slot + " " + x.fileAt(made - 1, slot));
        }
        for (int ref = 0; ref < REFS; ref++) {
            state.add("protect " + ref + " " + x.protect(ref, true));
        }
        if (thrownBy(() -> state.add("waiting " + x.move(0, -1, -1))) != null) {
            state.add("3 wait");
        }
        state.add("push " + x.push());
        return state;
    }

    void end() {
        System.out.println(asked + " answers asked, " + wrong + " not as due");
        if (wrong != 0 || asked == 0) {
            System.exit(1);
        }
    }
}
