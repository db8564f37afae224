/** Promise 16: the stack written. */
public final class WriteTest {
    private static final Checks CHECKS = new Checks();

    public static void main(String[] args) {
        writings();
        numbers();
        edges();
        CHECKS.end();
    }

    private static void due(String text, String want) {
        CHECKS.due("written", Checks.written(Checks.stackOf(text)), want);
        CHECKS.due("written again", Checks.written(Checks.stackOf(want)), want);
    }

    private static void writings() {
        due(Texts.LEAST, Texts.LEAST);
        due(Texts.LEAST + "press A B\nvia A B\n", Texts.LEAST + "via A B\n");
        due(Texts.SIX,
                "mask M 20 10\ncopper L1 17.5 10\nprepreg P 100 12.5\ncopper L2 35 5\ncore C 0.8 0\n"
                + "copper L3 35 5\nspare S\nprepreg P 100 12.5\ncopper L4 35 5\ncore C 0.8 0\n"
                + "copper L5 35 5\nprepreg P 100 12.5\ncopper L6 17.5 10\nmask M 20 10\n"
                + "press L2 L3\npress L4 L5\npress L2 L5\nvia L2 L5\nvia L1 L6\nvia L4 L5\n");
        String names = "copper abcdefgh 1 1\nspare 01234567\ncore 0 1 1\ncopper ABCwxyz9 1 1\n";
        due(names + "press abcdefgh ABCwxyz9\nvia abcdefgh ABCwxyz9\n", names + "via abcdefgh ABCwxyz9\n");
        due(Texts.coppers(32), Texts.coppers(32));
    }

    private static void number(String thickness, String spread, String want) {
        due(Texts.LEAST.replace("core C 1 1", "core C " + thickness + " " + spread),
                Texts.LEAST.replace("core C 1 1", "core C " + want));
    }

    private static void numbers() {
        number("0", "0", "0 0");
        number("0000.000", "00.0", "0 0");
        number("0.001", "0.1", "0.001 0.1");
        number("0.010", "00.9", "0.01 0.9");
        number("0.100", "01.0", "0.1 1");
        number("9999.999", "50.0", "9999.999 50");
        number("1000.0", "10.0", "1000 10");
        number("0100.050", "49.9", "100.05 49.9");
        number("10", "20", "10 20");
        number("007.070", "09.9", "7.07 9.9");
    }

    private static void edges() {
        LayerStacks x = Checks.stackOf(Texts.LEAST);
        CHECKS.due("the first", x.write(0), 'c');
        CHECKS.due("the last", x.write(Texts.LEAST.length() - 1), '\n');
        CHECKS.due("behind it", x.write(Texts.LEAST.length()), LayerStacks.NONE);
        CHECKS.due("at 3000", x.write(3000), LayerStacks.NONE);
        CHECKS.due("far behind it", x.write(Integer.MAX_VALUE), LayerStacks.NONE);
        CHECKS.dueIndex("ahead of it", () -> x.write(-1));
        CHECKS.dueIndex("far ahead of it", () -> x.write(Integer.MIN_VALUE));
        CHECKS.dueIndex("ahead of none", () -> new LayerStacks().write(-1));
        CHECKS.dueState("of none", () -> new LayerStacks().write(0));
        CHECKS.dueState("behind none", () -> new LayerStacks().write(Integer.MAX_VALUE));
        x.copper(0, 1, 2);
        Checks.feed(x, "mask");
        x.read();
        CHECKS.due("shares and texts do not matter", Checks.written(x), Texts.LEAST);
        LayerStacks y = Checks.stackOf(Texts.SIX);
        Checks.feed(y, Texts.LEAST);
        y.read();
        CHECKS.due("a shorter one behind a longer one", Checks.written(y), Texts.LEAST);
    }
}
