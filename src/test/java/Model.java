import java.util.ArrayDeque;
import java.util.ArrayList;
import java.util.Deque;
import java.util.HashSet;
import java.util.Iterator;
import java.util.List;
import java.util.Set;
import java.util.TreeSet;

/** The document's words, sentence by sentence, in Java's collections: slow, and made without a look at FetchHouse. */
final class Model {
    private record Commit(List<Integer> parents, int[] files) { }

    private record Move(int ref, int old, int its) { }

    private static final class Side {
        final TreeSet<Integer> commits = new TreeSet<>();
        final Set<Integer> files = new HashSet<>();
        final int[] refs = {-1, -1, -1, -1};
    }

    private final List<Commit> all = new ArrayList<>();
    private final Side server = new Side();
    private final Side client = new Side();
    private final boolean[] guarded = new boolean[4];
    private final List<Move> row = new ArrayList<>();
    private int rounds;

    public int make(int store, int first, int second, int slot, int file) {
        Side side = side(store);
        index(slot >= 0 && slot <= 3);
        index(first == -1 || side.commits.contains(first));
        index(second == -1 || side.commits.contains(second));
        range(file >= -1 && file <= 99);
        range(!(second != -1 && first == -1));
        range(!(second != -1 && second == first));
        state(all.size() < 60);
        int[] files = first == -1 ? new int[] {-1, -1, -1, -1} : all.get(first).files().clone();
        files[slot] = file;
        List<Integer> parents = new ArrayList<>();
        if (first != -1) {
            parents.add(first);
        }
        if (second != -1) {
            parents.add(second);
        }
        all.add(new Commit(parents, files));
        side.commits.add(all.size() - 1);
        if (file != -1) {
            side.files.add(file);
        }
        return all.size() - 1;
    }

    public int setRef(int store, int ref, int commit) {
        Side side = side(store);
        index(ref >= 0 && ref <= 3);
        index(commit == -1 || side.commits.contains(commit));
        int before = side.refs[ref];
        side.refs[ref] = commit;
        return before;
    }

    public int ref(int store, int ref) {
        Side side = side(store);
        index(ref >= 0 && ref <= 3);
        return side.refs[ref];
    }

    public int fileAt(int commit, int slot) {
        index(commit >= 0 && commit < all.size());
        index(slot >= 0 && slot <= 3);
        return all.get(commit).files()[slot];
    }

    public int fetch(int ref, int depth, boolean withFiles) {
        index(ref >= 0 && ref <= 3);
        range(depth >= 0 && depth <= 60);
        state(server.refs[ref] != -1);
        Set<Integer> got = reach(server.refs[ref], depth);
        got.removeAll(talk());
        client.commits.addAll(got);
        if (withFiles) {
            Set<Integer> files = filesOf(got);
            files.retainAll(server.files);
            client.files.addAll(files);
        }
        client.refs[ref] = server.refs[ref];
        return got.size();
    }

    public int wouldFetch(int ref, int depth) {
        index(ref >= 0 && ref <= 3);
        range(depth >= 0 && depth <= 60);
        state(server.refs[ref] != -1);
        Set<Integer> reach = reach(server.refs[ref], depth);
        reach.removeAll(client.commits);
        return reach.size();
    }

    public int rounds() {
        return rounds;
    }

    public boolean load(int file) {
        range(file >= 0 && file <= 99);
        state(server.files.contains(file));
        return client.files.add(file);
    }

    public int missing() {
        Set<Integer> files = filesOf(client.commits);
        files.removeAll(client.files);
        return files.size();
    }

    public boolean protect(int ref, boolean isProtected) {
        index(ref >= 0 && ref <= 3);
        boolean before = guarded[ref];
        guarded[ref] = isProtected;
        return before != isProtected;
    }

    public int move(int ref, int old, int its) {
        index(ref >= 0 && ref <= 3);
        index(old >= -1 && old < all.size());
        index(its >= -1 && its < all.size());
        state(row.size() < 3);
        row.add(new Move(ref, old, its));
        return row.size();
    }

    public int push() {
        List<Move> moves = new ArrayList<>(row);
        row.clear();
        for (Move move : moves) {
            int refusal = refusal(move);
            if (refusal != 0) {
                return refusal;
            }
        }
        int before = server.commits.size();
        for (Move move : moves) {
            server.refs[move.ref()] = move.its();
            if (move.its() != -1) {
                Set<Integer> ancestors = ancestors(client, move.its());
                server.commits.addAll(ancestors);
                Set<Integer> files = filesOf(ancestors);
                files.retainAll(client.files);
                server.files.addAll(files);
            }
        }
        return server.commits.size() - before;
    }

    public int collect(int store) {
        Side side = side(store);
        Set<Integer> needed = new HashSet<>();
        for (int target : side.refs) {
            needed.addAll(ancestors(side, target));
        }
        int before = side.commits.size();
        side.commits.retainAll(needed);
        side.files.retainAll(filesOf(side.commits));
        return before - side.commits.size();
    }

    public int commits() {
        return all.size();
    }

    public boolean has(int store, int commit) {
        Side side = side(store);
        index(commit >= 0 && commit < all.size());
        return side.commits.contains(commit);
    }

    public boolean hasFile(int store, int file) {
        Side side = side(store);
        range(file >= 0 && file <= 99);
        return side.files.contains(file);
    }

    public boolean isShallow(int commit) {
        index(commit >= 0 && commit < all.size());
        return shallow(client, commit);
    }

    public boolean isAncestor(int store, int commit, int other) {
        Side side = side(store);
        index(commit >= 0 && commit < all.size());
        index(other >= 0 && other < all.size());
        return ancestors(side, other).contains(commit);
    }

    private int refusal(Move move) {
        if (server.refs[move.ref()] != move.old()) {
            return -2;
        }
        Set<Integer> ancestors = ancestors(client, move.its());
        if (guarded[move.ref()] && move.old() != -1 && !ancestors.contains(move.old())) {
            return -3;
        }
        if (move.its() != -1 && !client.commits.contains(move.its())) {
            return -4;
        }
        for (int ancestor : ancestors) {
            if (shallow(client, ancestor) && !server.commits.contains(ancestor)) {
                return -4;
            }
        }
        return 0;
    }

    private Set<Integer> talk() {
        Set<Integer> common = new HashSet<>();
        Set<Integer> told = new HashSet<>();
        rounds = 0;
        while (true) {
            List<Integer> round = new ArrayList<>();
            Iterator<Integer> falling = client.commits.descendingIterator();
            while (falling.hasNext() && round.size() < 4) {
                int commit = falling.next();
                if (!told.contains(commit) && !common.contains(commit)) {
                    round.add(commit);
                }
            }
            if (round.isEmpty()) {
                return common;
            }
            rounds++;
            told.addAll(round);
            for (int commit : round) {
                if (server.commits.contains(commit)) {
                    common.addAll(ancestors(client, commit));
                }
            }
        }
    }

    private boolean shallow(Side side, int commit) {
        return side == client && client.commits.contains(commit)
                && !client.commits.containsAll(all.get(commit).parents());
    }

    private Set<Integer> ancestors(Side side, int of) {
        Set<Integer> found = new HashSet<>();
        Deque<Integer> open = new ArrayDeque<>();
        open.add(of);
        while (!open.isEmpty()) {
            int commit = open.remove();
            if (side.commits.contains(commit) && found.add(commit) && !shallow(side, commit)) {
                open.addAll(all.get(commit).parents());
            }
        }
        return found;
    }

    private Set<Integer> reach(int of, int depth) {
        Set<Integer> found = new HashSet<>();
        Set<Integer> edge = new HashSet<>();
        edge.add(of);
        for (int steps = 0; (depth == 0 || steps < depth) && !edge.isEmpty(); steps++) {
            found.addAll(edge);
            Set<Integer> next = new HashSet<>();
            for (int commit : edge) {
                next.addAll(all.get(commit).parents());
            }
            next.retainAll(ancestors(server, of));
            edge = next;
        }
        return found;
    }

    private Set<Integer> filesOf(Set<Integer> commits) {
        Set<Integer> files = new HashSet<>();
        for (int commit : commits) {
            for (int file : all.get(commit).files()) {
                if (file != -1) {
                    files.add(file);
                }
            }
        }
        return files;
    }

    private Side side(int store) {
        index(store == 0 || store == 1);
        return store == 0 ? server : client;
    }

    private static void index(boolean holds) {
        if (!holds) {
            throw new IndexOutOfBoundsException();
        }
    }

    private static void range(boolean holds) {
        if (!holds) {
            throw new IllegalArgumentException();
        }
    }

    private static void state(boolean holds) {
        if (!holds) {
            throw new IllegalStateException();
        }
    }
}
