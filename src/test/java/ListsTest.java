/** Promises 10 to 13: makers' lists. */
public final class ListsTest {
    private static final Checks CHECKS = new Checks();

    public static void main(String[] args) {
        lists();
        rows();
        changes();
        matches();
        CHECKS.end();
    }

    private static void lists() {
        LayerStacks x = Checks.stackOf(Texts.LEAST);
        CHECKS.due("no list yet", x.match(), LayerStacks.NONE);
        for (int list = 0; list < 8; list++) {
            CHECKS.due("list", x.list(), list);
        }
        CHECKS.due("a ninth list", x.list(), LayerStacks.NONE);
        CHECKS.due("a ninth list again", x.list(), LayerStacks.NONE);
        CHECKS.due("the eighth one is there", x.changes(7), 3);
        CHECKS.dueIndex("no ninth one", () -> x.changes(8));
        CHECKS.due("a row", x.row(0, 0, 0, 5000), true);
        Checks.feed(x, Texts.LEAST);
        CHECKS.due("read again", x.read(), 3);
        CHECKS.dueIndex("the lists are gone", () -> x.changes(0));
        CHECKS.due("a first list again", x.list(), 0);
        CHECKS.due("which is without rows", x.changes(0), 3);
        CHECKS.due("and takes one", x.row(0, 0, 1000, 1000), true);
        CHECKS.dueState("no stack", () -> new LayerStacks().list());
    }

    private static void rows() {
        LayerStacks x = Checks.stackOf(Texts.SIX);
        CHECKS.dueIndex("a row of no list", () -> x.row(0, 0, 0, 0) ? 1 : 0);
        x.list();
        x.list();
        CHECKS.due("a row", x.row(0, 0, 1, 2), true);
        CHECKS.due("a second one", x.row(0, 0, 20000, 20000), false);
        CHECKS.due("which changed nothing", x.changes(0), 13);
        CHECKS.due("another list's", x.row(1, 0, 20000, 20000), true);
        CHECKS.due("which fits", x.changes(1), 12);
        CHECKS.due("the widest", x.row(0, 13, 0, Long.MAX_VALUE), true);
        CHECKS.due("a spare one's", x.row(0, 6, 0, 1), false);
        CHECKS.due("a spare one's again", x.row(0, 6, 0, 1), false);
        int[] wrongs = {Integer.MIN_VALUE, -1, Integer.MAX_VALUE};
        for (int wrong : wrongs) {
            CHECKS.dueIndex("a row of list " + wrong, () -> x.row(wrong, 0, 0, 0) ? 1 : 0);
            CHECKS.dueIndex("a row of layer " + wrong, () -> x.row(0, wrong, 0, 0) ? 1 : 0);
            CHECKS.dueIndex("ahead of its bounds", () -> x.row(wrong, 0, 2, 1) ? 1 : 0);
        }
        CHECKS.dueIndex("a row of list 2", () -> x.row(2, 0, 0, 0) ? 1 : 0);
        CHECKS.dueIndex("a row of layer 14", () -> x.row(0, 14, 0, 0) ? 1 : 0);
        CHECKS.dueIndex("a row of layer 14 and wrong bounds", () -> x.row(0, 14, -1, 0) ? 1 : 0);
        CHECKS.dueArgument("low below 0", () -> x.row(0, 1, -1, 5) ? 1 : 0);
        CHECKS.dueArgument("least low", () -> x.row(0, 1, Long.MIN_VALUE, Long.MAX_VALUE) ? 1 : 0);
        CHECKS.dueArgument("low above high", () -> x.row(0, 1, 6, 5) ? 1 : 0);
        CHECKS.dueArgument("high below 0", () -> x.row(0, 1, 0, -1) ? 1 : 0);
        CHECKS.dueArgument("a second row's wrong bounds", () -> x.row(0, 0, 6, 5) ? 1 : 0);
        CHECKS.dueArgument("a spare one's wrong bounds", () -> x.row(0, 6, 6, 5) ? 1 : 0);
        CHECKS.due("nothing has changed", x.row(0, 1, 17500, 17500), true);
        CHECKS.due("changes at last", x.changes(0), 11);
    }

    private static void changes() {
        LayerStacks x = Checks.stackOf("copper A 1 50\ncore C 2 1\nspare S\ncopper B 0 1\n");
        x.list();
        CHECKS.due("without rows", x.changes(0), 3);
        x.row(0, 0, 1000, 1000);
        CHECKS.due("both bounds are in", x.changes(0), 2);
        x.row(0, 1, 2001, 3000);
        CHECKS.due("below the low bound", x.changes(0), 2);
        x.row(0, 3, 0, 0);
        CHECKS.due("none is thick enough", x.changes(0), 1);
        x.list();
        x.row(1, 1, 0, 1999);
        CHECKS.due("above the high bound", x.changes(1), 3);
        x.copper(0, 0, 1);
        CHECKS.due("shares change nothing", x.changes(0), 1);
        int[] wrongs = {Integer.MIN_VALUE, -1, 2, 8, Integer.MAX_VALUE};
        for (int wrong : wrongs) {
            CHECKS.dueIndex("changes of " + wrong, () -> x.changes(wrong));
        }
    }

    private static void matches() {
        LayerStacks x = Checks.stackOf(Texts.LEAST);
        x.list();
        CHECKS.due("the only one", x.match(), 0);
        x.list();
        x.list();
        CHECKS.due("the lowest of several", x.match(), 0);
        x.row(2, 1, 0, 1000);
        CHECKS.due("the least", x.match(), 2);
        x.row(1, 0, 0, 1000);
        CHECKS.due("the lowest of two", x.match(), 1);
        x.row(2, 2, 1000, 1001);
        CHECKS.due("the least again", x.match(), 2);
    }
}
