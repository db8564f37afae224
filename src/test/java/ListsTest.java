/** Promises 10 to 13: makers' lists. */
public final class ListsTest {
    private static final Checks CHECKS = new Checks();
    private static final int[] WRONG_LISTS = {Integer.MIN_VALUE, -1, 2, 7, 8, Integer.MAX_VALUE};

    public static void main(String[] args) {
        lists();
        listsWithoutStack();
        rows();
        rowsThatChangeNothing();
        rowsRefused();
        changes();
        changesOfNone();
        matches();
        CHECKS.end();
    }

    private static void lists() {
        CHECKS.says("A new maker's list, without rows: its number, from 0");
        LayerStacks x = Checks.stackOf(Texts.FEW);
        for (int list = 0; list < 8; list++) {
            int wanted = list;
            CHECKS.dueIndex("no list " + list + " yet", () -> x.changes(wanted));
            CHECKS.due("list", x.list(), list);
            CHECKS.due("changes of " + list, x.changes(list), 5);
        }
        CHECKS.due("a row of the last list", x.row(7, 0, 1000, 1000), true);
        CHECKS.due("which fits", x.changes(7), 4);
        CHECKS.says("NONE when there are 8");
        CHECKS.dueUnchanged("a ninth list", x, () -> x.list(), "-1");
        CHECKS.due("a ninth list again", x.list(), LayerStacks.NONE);
        CHECKS.dueIndex("no ninth one", () -> x.changes(8));
        CHECKS.dueIndex("no row of a ninth one", () -> x.row(8, 0, 0, 0) ? 1 : 0);
        CHECKS.says("lists are gone");
        LayerStacks y = Checks.stackOf(Texts.LEAST);
        for (int list = 0; list < 8; list++) {
            y.list();
            y.row(list, 0, 1000, 1000);
        }
        CHECKS.due("read again", Checks.read(y, Texts.LEAST), 3);
        for (int list = 0; list < 8; list++) {
            int wanted = list;
            CHECKS.dueIndex("list " + list + " is gone", () -> y.changes(wanted));
            CHECKS.due("a list again", y.list(), list);
            CHECKS.due("without rows", y.changes(list), 3);
            CHECKS.due("it takes one", y.row(list, 0, 1000, 1000), true);
        }
    }

    private static void listsWithoutStack() {
        CHECKS.says("IllegalStateException, when there is no stack");
        LayerStacks x = new LayerStacks();
        CHECKS.dueState("list", () -> x.list());
        Checks.feed(x, Texts.LEAST);
        CHECKS.dueState("ahead of read", () -> x.list());
        CHECKS.dueIndex("none has come", () -> x.changes(0));
        CHECKS.due("read", x.read(), 3);
        CHECKS.due("the first one", x.list(), 0);
    }

    private static void rows() {
        CHECKS.says("A list's row for a layer: from low to high: true");
        LayerStacks x = Checks.stackOf(Texts.FEW);
        x.list();
        x.list();
        CHECKS.due("the first layer's", x.row(0, 0, 1000, 1000), true);
        CHECKS.due("the last layer's", x.row(0, 5, 0, Long.MAX_VALUE), true);
        CHECKS.due("from 0 to 0", x.row(0, 1, 0, 0), true);
        CHECKS.due("from most to most", x.row(0, 2, Long.MAX_VALUE, Long.MAX_VALUE), true);
        CHECKS.due("changes", x.changes(0), 3);
        CHECKS.due("no other list's", x.changes(1), 5);
        CHECKS.due("which takes one for the same layer", x.row(1, 0, 1000, 1000), true);
        CHECKS.due("which fits", x.changes(1), 4);
    }

    private static void rowsThatChangeNothing() {
        CHECKS.says("false, changing nothing, when it has one");
        LayerStacks x = Checks.stackOf(Texts.FEW);
        x.list();
        x.row(0, 0, 0, 0);
        x.row(0, 1, 2000, 2000);
        CHECKS.dueUnchanged("a better one", x, () -> x.row(0, 0, 1000, 1000) ? 1 : 0, "0");
        LayerStacks y = Checks.stackOf(Texts.FEW);
        y.list();
        y.row(0, 1, 2000, 2000);
        CHECKS.dueUnchanged("a worse one", y, () -> y.row(0, 1, 3000, 3000) ? 1 : 0, "0");
        CHECKS.due("the same one", y.row(0, 1, 2000, 2000), false);
        CHECKS.says("or the layer is spare");
        LayerStacks z = Checks.stackOf(Texts.FEW);
        z.list();
        CHECKS.dueUnchanged("a spare one's", z, () -> z.row(0, 3, 0, 0) ? 1 : 0, "0");
        CHECKS.due("a spare one's again", z.row(0, 3, 0, Long.MAX_VALUE), false);
    }

    private static void rowRefused(int list, int layer, long low, long high, boolean isIndex) {
        LayerStacks x = Checks.stackOf(Texts.FEW);
        x.list();
        x.list();
        x.row(0, 1, 2000, 2000);
        String what = "row " + list + " " + layer + " " + low + " " + high;
        Checks.Call call = () -> x.row(list, layer, low, high) ? 1 : 0;
        if (isIndex) {
            CHECKS.dueUnchangedIndex(what, x, call);
        } else {
            CHECKS.dueUnchangedArgument(what, x, call);
            CHECKS.due("no row behind " + what, x.row(list, 0, 1000, 1000), true);
        }
    }

    private static void rowsRefused() {
        CHECKS.says("IndexOutOfBoundsException, when there is no such list or layer");
        for (int list : WRONG_LISTS) {
            rowRefused(list, 0, 0, 0, true);
            rowRefused(list, 0, 1, 0, true);
            rowRefused(list, 3, 0, 0, true);
        }
        for (int layer : new int[] {Integer.MIN_VALUE, -1, 6, 79, 80, Integer.MAX_VALUE}) {
            rowRefused(0, layer, 0, 0, true);
            rowRefused(1, layer, -1, 0, true);
        }
        CHECKS.dueIndex("without a list", () -> Checks.stackOf(Texts.FEW).row(0, 0, 0, 0) ? 1 : 0);
        CHECKS.says("IllegalArgumentException, when low is below 0 or above high");
        long[][] wrongs = {{-1, 5}, {-1, -1}, {Long.MIN_VALUE, Long.MAX_VALUE}, {Long.MIN_VALUE, Long.MIN_VALUE},
            {6, 5}, {1, 0}, {0, -1}, {0, Long.MIN_VALUE}, {Long.MAX_VALUE, Long.MAX_VALUE - 1}};
        for (long[] wrong : wrongs) {
            rowRefused(0, 0, wrong[0], wrong[1], false);
            rowRefused(1, 5, wrong[0], wrong[1], false);
            rowRefused(0, 1, wrong[0], wrong[1], false);
            rowRefused(0, 3, wrong[0], wrong[1], false);
        }
    }

    private static int changesOf(int thickness, long low, long high) {
        String told = String.format("%d.%03d", thickness / 1000, thickness % 1000);
        LayerStacks x = Checks.stackOf("copper A 1 50\ncore C " + told + " 50\ncopper B 0 1\n");
        x.list();
        x.row(0, 1, low, high);
        return x.changes(0);
    }

    private static void changes() {
        CHECKS.says("the layers, but spare ones, for which it has no row");
        LayerStacks x = Checks.stackOf("mask M 1 1\ncopper A 1 50\ncore C 2 1\nspare S\nspare S\ncopper B 0 1\n");
        x.list();
        CHECKS.due("without rows", x.changes(0), 4);
        int[] layers = {0, 1, 2, 5};
        for (int i = 0; i < layers.length; i++) {
            x.row(0, layers[i], 0, 2000);
            CHECKS.due("with a row for " + layers[i], x.changes(0), 3 - i);
        }
        CHECKS.says("or one in whose bounds the thickness does not lie");
        CHECKS.due("one below low", changesOf(2999, 3000, 4000), 3);
        CHECKS.due("low", changesOf(3000, 3000, 4000), 2);
        CHECKS.due("high", changesOf(4000, 3000, 4000), 2);
        CHECKS.due("one above high", changesOf(4001, 3000, 4000), 3);
        CHECKS.due("low and high", changesOf(3000, 3000, 3000), 2);
        CHECKS.due("0 of 0", changesOf(0, 0, 0), 2);
        CHECKS.due("0 of 1", changesOf(0, 1, Long.MAX_VALUE), 3);
        CHECKS.due("most", changesOf(9_999_999, 9_999_999, Long.MAX_VALUE), 2);
        CHECKS.due("above most", changesOf(9_999_999, 10_000_000, Long.MAX_VALUE), 3);
        CHECKS.due("beyond 32 bits", changesOf(3000, 3000 + (1L << 32), 4000 + (1L << 32)), 3);
        CHECKS.says("SHARE of a copper layer: no matter of its thickness");
        x.copper(0, 0, 1);
        CHECKS.due("changes", x.changes(0), 0);
    }

    private static void changesOfNone() {
        CHECKS.says("IndexOutOfBoundsException, when there is none such");
        LayerStacks x = Checks.stackOf(Texts.FEW);
        CHECKS.dueIndex("without any", () -> x.changes(0));
        x.list();
        x.list();
        for (int wrong : WRONG_LISTS) {
            CHECKS.dueIndex("changes of " + wrong, () -> x.changes(wrong));
        }
        CHECKS.due("the last one", x.changes(1), 5);
    }

    private static void matches() {
        CHECKS.says("NONE without any");
        CHECKS.due("without a stack", new LayerStacks().match(), LayerStacks.NONE);
        LayerStacks x = Checks.stackOf(Texts.LEAST);
        CHECKS.due("without lists", x.match(), LayerStacks.NONE);
        CHECKS.says("The list with the least CHANGES, the lowest of several");
        x.list();
        CHECKS.due("the only one", x.match(), 0);
        x.list();
        x.list();
        CHECKS.due("the lowest of three", x.match(), 0);
        x.row(2, 1, 0, 1000);
        CHECKS.due("the least", x.match(), 2);
        x.row(1, 0, 0, 1000);
        CHECKS.due("the lowest of two", x.match(), 1);
        x.row(2, 2, 1000, 1001);
        CHECKS.due("the least again", x.match(), 2);
        x.row(2, 0, 1000, 1001);
        CHECKS.due("the least with none", x.match(), 2);
        for (int list = 3; list < 8; list++) {
            CHECKS.due("list", x.list(), list);
        }
        for (int layer = 0; layer < 3; layer++) {
            x.row(7, layer, 1000, 1000);
        }
        CHECKS.due("the lowest of two with none", x.match(), 2);
        LayerStacks y = Checks.stackOf(Texts.LEAST);
        for (int list = 0; list < 8; list++) {
            y.list();
        }
        y.row(7, 1, 1000, 1000);
        CHECKS.due("the last one", y.match(), 7);
        CHECKS.due("read again", Checks.read(y, Texts.LEAST), 3);
        CHECKS.due("none again", y.match(), LayerStacks.NONE);
    }
}
