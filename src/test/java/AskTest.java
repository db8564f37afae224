/** Promises 4 to 9, 14 and 15: what a stack answers. */
public final class AskTest {
    private static final Checks CHECKS = new Checks();
    private static final int[] WRONG_LAYERS = {Integer.MIN_VALUE, -1, 14, 80, Integer.MAX_VALUE};
    private static final int[] WRONG_COPPERS = {Integer.MIN_VALUE, -1, 6, 32, Integer.MAX_VALUE};
    private static final int[] WRONG_BITS = {Integer.MIN_VALUE, -1, 2, Integer.MAX_VALUE};

    public static void main(String[] args) {
        thick();
        kindAndRole();
        via();
        pressed();
        skew();
        copper();
        sum();
        CHECKS.end();
    }

    private static void fraction(String what, Checks.Call above, Checks.Call below, String want) {
        CHECKS.due(what, above.answer() + "/" + below.answer(), want);
    }

    private static void thick(LayerStacks x, int layer, String low, String high) {
        fraction("low end of " + layer, () -> x.thick(layer, 0, 0), () -> x.thick(layer, 0, 1), low);
        fraction("high end of " + layer, () -> x.thick(layer, 1, 0), () -> x.thick(layer, 1, 1), high);
    }

    private static void thick() {
        LayerStacks x = Checks.stackOf(Texts.SIX);
        thick(x, 0, "18000/1", "22000/1");
        thick(x, 1, "15750/1", "19250/1");
        thick(x, 2, "87500/1", "112500/1");
        thick(x, 4, "800/1", "800/1");
        thick(x, 5, "33250/1", "36750/1");
        CHECKS.dueState("thick of a spare one", () -> x.thick(6, 0, 0));
        CHECKS.dueIndex("thick of a spare one's end 2", () -> x.thick(6, 2, 0));
        CHECKS.dueIndex("thick of a spare one's part 2", () -> x.thick(6, 0, 2));
        for (int layer : WRONG_LAYERS) {
            CHECKS.dueIndex("thick of " + layer, () -> x.thick(layer, 0, 0));
        }
        for (int wrong : WRONG_BITS) {
            CHECKS.dueIndex("thick, end " + wrong, () -> x.thick(0, wrong, 0));
            CHECKS.dueIndex("thick, part " + wrong, () -> x.thick(0, 0, wrong));
        }
        LayerStacks y = Checks.stackOf("copper A 0.001 0.1\ncore C 9999.999 50\ncopper B 0 33.3\n");
        thick(y, 0, "999/1000", "1001/1000");
        thick(y, 1, "9999999/2", "29999997/2");
        thick(y, 2, "0/1", "0/1");
        LayerStacks z = Checks.stackOf("copper A 0.05 1.5\ncore C 0.5 12.5\ncopper B 7.08 0.4\n");
        thick(z, 0, "197/4", "203/4");
        thick(z, 1, "875/2", "1125/2");
        thick(z, 2, "176292/25", "177708/25");
    }

    private static void kindAndRole() {
        LayerStacks x = Checks.stackOf(Texts.SIX);
        int[] kinds = {3, 0, 2, 0, 1, 0, 4, 2, 0, 1, 0, 2, 0, 3};
        int copper = 0;
        for (int layer = 0; layer < kinds.length; layer++) {
            CHECKS.due("kind of " + layer, x.kind(layer), kinds[layer]);
            CHECKS.due("role of " + layer, x.role(layer), kinds[layer] == 0 ? copper++ : LayerStacks.NONE);
        }
        for (int layer : WRONG_LAYERS) {
            CHECKS.dueIndex("kind of " + layer, () -> x.kind(layer));
            CHECKS.dueIndex("role of " + layer, () -> x.role(layer));
        }
    }

    private static void via() {
        LayerStacks x = Checks.stackOf(Texts.SIX);
        for (int from = 0; from < 6; from++) {
            for (int to = 0; to < 6; to++) {
                int least = Math.min(from, to);
                int most = Math.max(from, to);
                boolean want = least == 1 && most == 4 || least == 0 && most == 5 || least == 3 && most == 4;
                CHECKS.due("via " + from + " " + to, x.via(from, to), want);
            }
        }
        for (int wrong : WRONG_COPPERS) {
            CHECKS.dueIndex("via from " + wrong, () -> x.via(wrong, 0) ? 1 : 0);
            CHECKS.dueIndex("via to " + wrong, () -> x.via(0, wrong) ? 1 : 0);
        }
    }

    private static void pressed(LayerStacks x, String want) {
        StringBuilder got = new StringBuilder();
        for (int k = 0; k < want.split(" ").length; k++) {
            got.append(k == 0 ? "" : " ").append(x.pressed(k, 0)).append('-').append(x.pressed(k, 1));
            got.append(':').append(x.pressed(k, 2));
        }
        CHECKS.due("pressings", got.toString(), want);
        int count = want.split(" ").length;
        CHECKS.dueIndex("no more pressings", () -> x.pressed(count, 0));
    }

    private static void pressed() {
        LayerStacks x = Checks.stackOf(Texts.SIX);
        pressed(x, "1-2:0 3-4:0 1-4:2 0-5:1");
        int[] wrongPressings = {Integer.MIN_VALUE, -1, 4, 21, Integer.MAX_VALUE};
        for (int k : wrongPressings) {
            for (int what = 0; what < 3; what++) {
                int asked = what;
                CHECKS.dueIndex("pressing " + k, () -> x.pressed(k, asked));
            }
        }
        int[] wrongWhats = {Integer.MIN_VALUE, -1, 3, Integer.MAX_VALUE};
        for (int what : wrongWhats) {
            CHECKS.dueIndex("pressed, what " + what, () -> x.pressed(0, what));
        }
        pressed(Checks.stackOf(Texts.LEAST), "0-1:0");
        pressed(Checks.stackOf(Texts.LEAST + "press A B\n"), "0-1:0");
        pressed(Checks.stackOf(Texts.coppers(8)
                + "press C0 C7\npress C6 C7\npress C0 C3\npress C4 C7\npress C2 C3\npress C0 C1\npress C4 C5\n"),
                "0-1:0 2-3:0 4-5:0 6-7:0 0-3:2 4-7:2 0-7:2");
        pressed(Checks.stackOf(Texts.coppers(5) + "press C0 C3\npress C0 C2\npress C0 C1\n"),
                "0-1:0 0-2:1 0-3:1 0-4:1");
        pressed(Checks.stackOf(Texts.coppers(7) + "press C4 C6\npress C0 C2\npress C1 C2\n"),
                "1-2:0 0-2:1 4-6:0 0-6:2");
    }

    private static String skews(LayerStacks x) {
        StringBuilder got = new StringBuilder();
        for (int k = 0; x.skew(k) != LayerStacks.NONE; k++) {
            got.append(k == 0 ? "" : " ").append(x.skew(k));
        }
        return got.toString();
    }

    private static void skews(String text, String want) {
        CHECKS.due("skew of <" + text + ">", skews(Checks.stackOf(text)), want);
    }

    private static void skew() {
        skews(Texts.LEAST, "");
        skews("copper A 1 1\ncore C 1 1\ncopper B 1 2\n", "0 2");
        skews("copper A 1 1\ncore C 1 1\ncopper B 1.001 1\n", "0 2");
        skews("copper A 1.0 01\ncore C 1 1\ncopper B 0001 1.0\n", "");
        skews("mask M 1 1\ncopper A 1 1\ncore C 1 1\ncopper B 1 1\nmask N 1 1\n", "0 4");
        skews("mask M 1 1\ncopper A 1 1\ncore C 1 1\ncopper B 1 1\n", "0 1 2 3");
        skews("copper A 1 1\nspare S\ncore C 1 1\nspare S\ncopper B 1 1\n", "");
        skews("copper A 1 1\nspare S\ncore C 1 1\nspare T\ncopper B 1 1\n", "1 3");
        skews("copper A 1 1\nspare S\ncore S 0 0\ncopper B 1 1\n", "1 2");
        skews("copper A 1 1\ncore C 1 1\nprepreg C 1 1\ncopper B 1 1\n", "1 2");
        skews("copper A 1 1\ncore C 1 1\ncore c 1 1\ncopper B 1 1\n", "1 2");
        LayerStacks x = Checks.stackOf(Texts.SIX);
        CHECKS.due("skew", skews(x), "6 7");
        CHECKS.due("skew -1", x.skew(-1), LayerStacks.NONE);
        CHECKS.due("skew 2", x.skew(2), LayerStacks.NONE);
        CHECKS.due("skew least", x.skew(Integer.MIN_VALUE), LayerStacks.NONE);
        CHECKS.due("skew most", x.skew(Integer.MAX_VALUE), LayerStacks.NONE);
        x.copper(5, 1, 2);
        CHECKS.due("skew by share", skews(x), "1 6 7 12");
        x.copper(0, 2, 4);
        CHECKS.due("skew by equal shares", skews(x), "6 7");
    }

    private static void copper() {
        LayerStacks x = Checks.stackOf(Texts.SIX);
        long most = 1_000_000_000_000_000L;
        CHECKS.due("share 1000 again", x.copper(0, most, most), false);
        CHECKS.due("share 999", x.copper(0, most - 1, most), true);
        CHECKS.due("share 999 again", x.copper(0, 1999, 2000), false);
        CHECKS.due("share 0", x.copper(0, 0, 1), true);
        CHECKS.due("share 0 again", x.copper(0, 1, 1001), false);
        CHECKS.due("share 1", x.copper(0, 1, 1000), true);
        CHECKS.due("another one's share", x.copper(5, 1, 1), false);
        for (int wrong : WRONG_COPPERS) {
            CHECKS.dueIndex("copper " + wrong, () -> x.copper(wrong, 1, 1) ? 1 : 0);
            CHECKS.dueIndex("copper ahead of whole " + wrong, () -> x.copper(wrong, 1, 0) ? 1 : 0);
        }
        long[][] wrongs = {{0, 0}, {0, -1}, {-1, 1}, {2, 1}, {0, most + 1}, {-1, -1},
            {Long.MIN_VALUE, 1}, {Long.MAX_VALUE, Long.MAX_VALUE}, {0, Long.MIN_VALUE}, {most + 1, most}};
        for (long[] wrong : wrongs) {
            CHECKS.dueArgument("area " + wrong[0] + " of " + wrong[1],
                    () -> x.copper(0, wrong[0], wrong[1]) ? 1 : 0);
        }
        CHECKS.due("the share stays", x.copper(0, 1, 1000), false);
    }

    private static void sum(LayerStacks x, String low, String high) {
        fraction("sum of low ends", () -> x.sum(0, 0), () -> x.sum(0, 1), low);
        fraction("sum of high ends", () -> x.sum(1, 0), () -> x.sum(1, 1), high);
    }

    private static void sum() {
        sum(new LayerStacks(), "0/1", "0/1");
        LayerStacks x = Checks.stackOf(Texts.LEAST);
        sum(x, "2970/1", "3030/1");
        x.copper(1, 1, 3);
        sum(x, "230967/100", "235633/100");
        x.copper(0, 0, 3);
        sum(x, "131967/100", "134633/100");
        sum(Checks.stackOf(Texts.SIX), "464600/1", "568600/1");
        LayerStacks y = Checks.stackOf("copper A 0.001 0.1\ncore C 0 50\ncopper B 0 33.3\n");
        y.copper(0, 7, 1000);
        sum(y, "6993/1000000", "7007/1000000");
        LayerStacks most = Checks.stackOf("copper A 1 1\n" + "core C 9999.999 50\n".repeat(78) + "copper B 1 1\n");
        sum(most, "390001941/1", "1170001903/1");
        for (int wrong : WRONG_BITS) {
            CHECKS.dueIndex("sum, end " + wrong, () -> x.sum(wrong, 0));
            CHECKS.dueIndex("sum, part " + wrong, () -> x.sum(0, wrong));
            CHECKS.dueIndex("sum of none, end " + wrong, () -> new LayerStacks().sum(wrong, 0));
        }
    }
}
