/** Promise 16: the stack written. */
public final class WriteTest {
    private static final Checks CHECKS = new Checks();

    public static void main(String[] args) {
        lines();
        pressingsAndVias();
        thicknesses();
        spreads();
        characters();
        noStack();
        whatDoesNotMatter();
        CHECKS.end();
    }

    private static void due(String text, String want) {
        CHECKS.due("written", Checks.written(Checks.stackOf(text)), want);
        CHECKS.due("written again", Checks.written(Checks.stackOf(want)), want);
    }

    private static void lines() {
        CHECKS.says("WRITTEN: the LINES");
        due(Texts.LEAST, Texts.LEAST);
        due(Texts.FEW, Texts.FEW);
        String names = "mask 0 1 1\ncopper abcdefgh 1 1\nspare 01234567\ncore 0 1 1\n"
                + "copper ABCwxyz9 1 1\nmask zZ 1 1\n";
        due(names, names);
    }

    private static void pressingsAndVias() {
        CHECKS.says("PRESSINGS in their order (but for the last one of all)");
        String four = Texts.ofKinds("ckckckc");
        due(four + "press A D\n", four);
        due(four + "press A C\npress A D\npress A B\n", four + "press A B\npress A C\n");
        due(four + "press C D\npress A B\n", four + "press A B\npress C D\n");
        due(four + "press B D\npress C D\n", four + "press C D\npress B D\n");
        due(Texts.LEAST + "press A B\n", Texts.LEAST);
        CHECKS.says("VIAS in the order of the text");
        due(four + "press C D\npress A B\nvia C D\nvia A D\nvia A B\n",
                four + "press A B\npress C D\nvia C D\nvia A D\nvia A B\n");
        due(four + "via A D\n", four + "via A D\n");
        due(Texts.LEAST + "press A B\nvia A B\n", Texts.LEAST + "via A B\n");
    }

    private static void number(String thickness, String spread, String want) {
        due(Texts.between("core C " + thickness + " " + spread), Texts.between("core C " + want));
    }

    private static void thicknesses() {
        CHECKS.says("THICKNESS without . and digits that change nothing");
        String[][] told = {{"0", "0"}, {"00", "0"}, {"0000", "0"}, {"0.0", "0"}, {"0000.000", "0"}, {"0.001", "0.001"},
            {"0.010", "0.01"}, {"0.100", "0.1"}, {"0000.001", "0.001"}, {"1.000", "1"}, {"01.10", "1.1"}, {"10", "10"},
            {"100", "100"}, {"1000", "1000"}, {"1000.0", "1000"}, {"0100.050", "100.05"}, {"007.070", "7.07"},
            {"9999.999", "9999.999"}, {"9999.990", "9999.99"}, {"9000.000", "9000"}, {"0010", "10"}};
        for (String[] pair : told) {
            number(pair[0], "1", pair[1] + " 1");
        }
    }

    private static void spreads() {
        CHECKS.says("SPREAD without . and digits that change nothing");
        String[][] told = {{"0", "0"}, {"00", "0"}, {"0.0", "0"}, {"00.0", "0"}, {"0.1", "0.1"}, {"00.9", "0.9"},
            {"01", "1"}, {"01.0", "1"}, {"10", "10"}, {"10.0", "10"}, {"09.9", "9.9"}, {"20", "20"},
            {"49.9", "49.9"}, {"50.0", "50"}};
        for (String[] pair : told) {
            number("1", pair[0], "1 " + pair[1]);
        }
    }

    private static void characters() {
        CHECKS.says("The i-th character, from 0, of the stack WRITTEN; NONE behind the last one.");
        LayerStacks x = Checks.stackOf(Texts.LEAST);
        int length = Texts.LEAST.length();
        for (int i = 0; i < length; i++) {
            CHECKS.due("character " + i, x.write(i), Texts.LEAST.charAt(i));
        }
        for (int i : new int[] {length, length + 1, 2999, 3000, 3001, 65536, Integer.MAX_VALUE}) {
            CHECKS.due("character " + i, x.write(i), LayerStacks.NONE);
        }
        CHECKS.due("the last one ahead of the first one", x.write(length - 1), '\n');
        CHECKS.due("the first one behind the last one", x.write(0), 'c');
        CHECKS.says("IndexOutOfBoundsException, when i is below 0");
        CHECKS.dueIndex("-1", () -> x.write(-1));
        CHECKS.dueIndex("-2", () -> x.write(-2));
        CHECKS.dueIndex("the least", () -> x.write(Integer.MIN_VALUE));
    }

    private static void noStack() {
        CHECKS.says("IllegalStateException, when there is no stack");
        LayerStacks x = new LayerStacks();
        CHECKS.dueState("0", () -> x.write(0));
        CHECKS.dueState("the most", () -> x.write(Integer.MAX_VALUE));
        Checks.feed(x, Texts.LEAST);
        CHECKS.dueState("ahead of read", () -> x.write(0));
        CHECKS.says("IndexOutOfBoundsException, when i is below 0");
        CHECKS.dueIndex("without a stack", () -> x.write(-1));
        CHECKS.due("read", x.read(), 3);
        CHECKS.due("behind read", x.write(0), 'c');
    }

    private static void whatDoesNotMatter() {
        CHECKS.says("of the stack WRITTEN");
        LayerStacks x = Checks.stackOf(Texts.LEAST);
        x.copper(0, 1, 2);
        x.list();
        CHECKS.due("a fault", Checks.read(x, "mask M 1 1\ncopper Z 1 1\n~") < 0, true);
        CHECKS.due("shares, lists and texts do not matter", Checks.written(x), Texts.LEAST);
        LayerStacks y = Checks.stackOf(Texts.FEW);
        CHECKS.due("a shorter one", Checks.read(y, Texts.LEAST), 3);
        CHECKS.due("behind a longer one", Checks.written(y), Texts.LEAST);
    }
}
