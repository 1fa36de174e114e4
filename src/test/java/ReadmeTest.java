/** The calls of the example in README.md, with the answers that are told there. */
public final class ReadmeTest {
    public static void main(String[] args) {
        Checks checks = new Checks();
        checks.promise("README.md");
        FetchHouse x = new FetchHouse();
        int root = x.make(FetchHouse.SERVER, FetchHouse.NONE, FetchHouse.NONE, 0, 10);
        int next = x.make(FetchHouse.SERVER, root, FetchHouse.NONE, 1, 11);
        checks.due("setRef", x.setRef(FetchHouse.SERVER, 0, next), -1);
        checks.due("wouldFetch", x.wouldFetch(0, 0), 2);
        checks.due("fetch", x.fetch(0, 1, false), 1);
        checks.due("isShallow", x.isShallow(next), true);
        checks.due("missing", x.missing(), 2);
        checks.due("load", x.load(11), true);
        int mine = x.make(FetchHouse.CLIENT, next, FetchHouse.NONE, 2, 12);
        checks.due("protect", x.protect(0, true), true);
        checks.due("move", x.move(0, root, mine), 1);
        checks.due("push", x.push(), FetchHouse.STALE);
        checks.due("move again", x.move(0, next, mine), 1);
        checks.due("push again", x.push(), 1);
        checks.due("fetch again", x.fetch(0, 0, true), 1);
        checks.due("root's file", x.hasFile(FetchHouse.CLIENT, 10), true);
        checks.due("rounds", x.rounds(), 1);
        checks.due("setRef to root", x.setRef(FetchHouse.SERVER, 0, root), mine);
        checks.due("collect", x.collect(FetchHouse.SERVER), 2);
        checks.end();
    }
}
