/** Promises 1 to 3: a new object, the text, its reading. */
public final class ReadTest {
    private static final Checks CHECKS = new Checks();

    public static void main(String[] args) {
        newObject();
        units();
        refusedUnits();
        readings();
        newStack();
        manyStacks();
        shorterBehindLonger();
        faults();
        faultsWithoutStack();
        textGoesOn();
        CHECKS.end();
    }

    private static void newObject() {
        CHECKS.says("No text, no stack, no lists.");
        LayerStacks x = new LayerStacks();
        CHECKS.due("read", x.read(), -1);
        CHECKS.due("skew", x.skew(0), LayerStacks.NONE);
        CHECKS.due("match", x.match(), LayerStacks.NONE);
        for (int end = 0; end < 2; end++) {
            CHECKS.due("sum above", x.sum(end, 0), 0);
            CHECKS.due("sum below", x.sum(end, 1), 1);
        }
        CHECKS.dueIndex("kind", () -> x.kind(0));
        CHECKS.dueIndex("role", () -> x.role(0));
        CHECKS.dueIndex("thick", () -> x.thick(0, 0, 0));
        CHECKS.dueIndex("pressed", () -> x.pressed(0, 0));
        CHECKS.dueIndex("changes", () -> x.changes(0));
        CHECKS.dueIndex("copper", () -> x.copper(0, 1, 1) ? 1 : 0);
        CHECKS.dueIndex("via", () -> x.via(0, 1) ? 1 : 0);
        CHECKS.dueIndex("via of one", () -> x.via(0, 0) ? 1 : 0);
        CHECKS.dueIndex("row", () -> x.row(0, 0, 0, 0) ? 1 : 0);
        CHECKS.dueState("list", () -> x.list());
        CHECKS.dueState("write", () -> x.write(0));
        CHECKS.due("read again", x.read(), -1);
        CHECKS.says("two objects have nothing in common");
        LayerStacks one = Checks.stackOf(Texts.FEW);
        one.list();
        one.copper(0, 1, 2);
        Checks.feed(one, "mask");
        CHECKS.due("another one", Checks.answers(new LayerStacks()), Checks.answers(x));
        CHECKS.due("another one's text", new LayerStacks().read(), -1);
    }

    private static void units() {
        CHECKS.says("characters, 32 .. 126 or 10");
        LayerStacks x = new LayerStacks();
        for (int u = -20; u < 300; u++) {
            CHECKS.due("unit " + u, x.unit(u), u == 10 || u >= 32 && u <= 126);
        }
        CHECKS.says("One more character of the text.");
        LayerStacks y = new LayerStacks();
        CHECKS.due("unit 'c'", y.unit('c'), true);
        CHECKS.due("read c", y.read(), -2);
        CHECKS.due("unit 'o'", y.unit('o'), true);
        CHECKS.due("read co", y.read(), -3);
        CHECKS.due("unit 10", y.unit(10), true);
        CHECKS.due("read co and a line feed", y.read(), -3);
    }

    /** Between any two characters of a text all that is refused leaves no trace. */
    private static void refusedUnits() {
        CHECKS.says("False, refused, when it is none");
        int[] none = {Integer.MIN_VALUE, -65536 + 'a', -256 + 'a', -1, 0, 9, 11, 13, 31, 127, 128, 160, 255,
            256 + 10, 256 + 'a', 65536 + 10, 65536 + 'a', 1 << 24 | 'a', Integer.MAX_VALUE};
        for (int u : none) {
            LayerStacks x = new LayerStacks();
            for (int i = 0; i < Texts.LEAST.length(); i++) {
                CHECKS.due("unit " + u, x.unit(u), false);
                CHECKS.due("a character behind it", x.unit(Texts.LEAST.charAt(i)), true);
            }
            CHECKS.due("unit " + u + " at the end", x.unit(u), false);
            CHECKS.due("layers", x.read(), 3);
            CHECKS.due("written", Checks.written(x), Texts.LEAST);
        }
        LayerStacks y = Checks.stackOf(Texts.FEW);
        CHECKS.dueUnchanged("unit 127", y, () -> y.unit(127) ? 1 : 0, "0");
        CHECKS.due("no text came", y.read(), -1);
    }

    private static void readings() {
        CHECKS.says("how many layers");
        CHECKS.dueLayers(Texts.LEAST, 3);
        CHECKS.dueLayers(Texts.FEW, 6);
        CHECKS.dueLayers(Texts.SIX, 14);
        CHECKS.dueLayers("mask m 0 0\n" + Texts.LEAST + "mask m 9999.999 50\n", 5);
        CHECKS.dueLayers("copper A 1 1\nspare s\nspare s\nprepreg P 1 1\nspare A\ncopper B 1 50.0\n", 6);
        CHECKS.dueLayers("copper 0 1 1\ncore C 1 1\ncopper 00 1 1\npress 0 00\nvia 0 00\n", 3);
    }

    private static void newStack() {
        CHECKS.says("Reads the text, which is gone then");
        LayerStacks x = Checks.stackOf(Texts.FEW);
        CHECKS.dueUnchanged("read again", x, () -> x.read(), "-1");
        LayerStacks y = Checks.stackOf(Texts.FEW);
        CHECKS.due("of what comes later", Checks.read(y, "core"), -1);
        CHECKS.says("its stack takes the place of the one that was, shares are 1000, lists are gone");
        for (String other : new String[] {Texts.LEAST, Texts.FEW, "mask M 1 1\n" + Texts.LEAST + "via A B\n"}) {
            LayerStacks z = Checks.stackOf(Texts.FEW);
            CHECKS.due("list", z.list(), 0);
            CHECKS.due("list", z.list(), 1);
            CHECKS.due("row", z.row(0, 0, 0, 5000), true);
            CHECKS.due("share", z.copper(0, 1, 2), true);
            CHECKS.due("share", z.copper(1, 0, 2), true);
            CHECKS.due("read", Checks.read(z, other) > 0, true);
            CHECKS.due("all answers", Checks.answers(z), Checks.answers(Checks.stackOf(other)));
            CHECKS.due("a share of 1000", z.copper(0, 1, 1), false);
            CHECKS.due("a share of 1000", z.copper(1, 1, 1), false);
            CHECKS.due("the first list", z.list(), 0);
            CHECKS.due("a row of its own", z.row(0, 0, 0, 5000), true);
        }
    }

    /** Longer and shorter stacks in turn, with faults between: each is as it is on a new object. */
    private static void manyStacks() {
        CHECKS.says("its stack takes the place of the one that was, shares are 1000, lists are gone");
        String shorter = Texts.LEAST + "via A B\n";
        String tall = "mask M 6 6\ncopper X 7 7\nprepreg P 8 8\ncopper Y 9 9\nmask N 5 5\n";
        String[] faults = {"", Texts.FEW + "via A B\n",
            "mask M 9 9\ncopper A 9 9\ncore K 9 9\ncopper B 9 9\ncore K 9 9\n"};
        for (String fault : faults) {
            for (int longer = 0; longer < 3; longer++) {
                LayerStacks x = new LayerStacks();
                for (int stack = 0; stack < 3; stack++) {
                    String text = stack == longer ? tall : shorter;
                    CHECKS.due("read", Checks.read(x, text), stack == longer ? 5 : 3);
                    x.copper(1, 1, 7);
                }
                CHECKS.due("fault", Checks.read(x, fault) < 0, true);
                x.copper(1, 1, 1);
                String last = longer == 2 ? tall : shorter;
                CHECKS.due("all answers", Checks.answers(x), Checks.answers(Checks.stackOf(last)));
            }
        }
    }

    /** What an earlier text left behind the end of this one is no part of it. */
    private static void shorterBehindLonger() {
        CHECKS.says("Reads the text, which is gone then");
        for (int end = 0; end < Texts.FEW.length(); end++) {
            String part = Texts.FEW.substring(0, end);
            int want = Checks.read(new LayerStacks(), part);
            CHECKS.due("part " + end + " behind a longer text", Checks.read(Checks.stackOf(Texts.FEW), part), want);
        }
    }

    private static void faults() {
        CHECKS.says("With a FAULT -1 minus its place, and all stays.");
        String[] marked = {"@", "@x", "copper@", Texts.LEAST + "@~", Texts.LEAST + "core C 1 1\n@",
            Texts.LEAST + "press A B\nvia A @A",
            "mask M 7 7\ncopper A 7 7\ncore C 7 7\ncopper B 7 7\npress A B\nvia A B\n@via A B\n"};
        for (String text : marked) {
            int want = -1 - text.indexOf('@');
            LayerStacks x = Checks.stackOf(Texts.FEW);
            x.list();
            x.row(0, 0, 0, 5000);
            x.copper(0, 1, 2);
            Checks.feed(x, text.replace("@", ""));
            CHECKS.dueUnchanged("read of <" + text + ">", x, () -> x.read(), Integer.toString(want));
            CHECKS.due("the share stays", x.copper(0, 1, 2), false);
            CHECKS.due("the list stays", x.list(), 1);
            CHECKS.due("the row stays", x.row(0, 0, 0, 1), false);
            CHECKS.due("the text stays", x.read(), want);
        }
    }

    private static void faultsWithoutStack() {
        CHECKS.says("With a FAULT -1 minus its place, and all stays.");
        LayerStacks x = new LayerStacks();
        Checks.feed(x, Texts.LEAST + "press A B\nvia A B\nvi");
        CHECKS.dueUnchanged("read", x, () -> x.read(), Integer.toString(-1 - Texts.LEAST.length() - 20));
        CHECKS.dueState("no list without a stack", () -> x.list());
    }

    private static void textGoesOn() {
        CHECKS.says("With a FAULT -1 minus its place, and all stays.");
        LayerStacks x = Checks.stackOf(Texts.FEW);
        CHECKS.due("fault", Checks.read(x, Texts.LEAST + "pre"), -1 - Texts.LEAST.length() - 3);
        CHECKS.due("the text goes on", Checks.read(x, "ss A B"), -1 - Texts.LEAST.length() - 9);
        CHECKS.due("to its end", Checks.read(x, "\n"), 3);
        CHECKS.due("all answers", Checks.answers(x), Checks.answers(Checks.stackOf(Texts.LEAST)));
    }
}
