/**
 * The bounds that no run of 512 calls reaches, as each character is a call of its own: they hold all
 * the same, though nothing is promised of an object's later calls.
 */
public final class FullTest {
    private static final Checks CHECKS = new Checks();

    public static void main(String[] args) {
        characters();
        fullTexts();
        layers();
        coppers();
        presses();
        sums();
        CHECKS.end();
    }

    private static void characters() {
        CHECKS.says("False, refused, when there are 3,000");
        LayerStacks x = new LayerStacks();
        for (int i = 0; i < 3000; i++) {
            CHECKS.due("unit at " + i, x.unit(32 + i % 95), true);
        }
        for (int u : new int[] {32, 'a', 126, 10, 31, 127}) {
            CHECKS.due("the 3,001st, " + u, x.unit(u), false);
        }
        CHECKS.due("the text stays", x.read(), -1);
        CHECKS.due("and is full", x.unit('a'), false);
    }

    private static void fullTexts() {
        CHECKS.says("THE TEXT has at most 3,000 characters");
        String text = Texts.full(3000);
        CHECKS.due("its length", text.length(), 3000);
        LayerStacks x = new LayerStacks();
        Checks.feed(x, text);
        CHECKS.due("the 3,001st", x.unit('v'), false);
        CHECKS.due("layers", x.read(), 80);
        CHECKS.due("written", Checks.written(x), text);
        CHECKS.due("the last character", x.write(2999), '\n');
        CHECKS.due("behind it", x.write(3000), LayerStacks.NONE);
        CHECKS.due("the last layer", x.role(79), 31);
        CHECKS.dueIndex("behind the last layer", () -> x.role(80));
        CHECKS.due("the last copper layer", x.copper(31, 0, 1), true);
        CHECKS.dueIndex("behind the last copper layer", () -> x.copper(32, 0, 1) ? 1 : 0);
        CHECKS.due("the last pressing", x.pressed(20, 1), 31);
        CHECKS.dueIndex("behind the last pressing", () -> x.pressed(21, 1));
        CHECKS.due("room for one more text", Checks.read(x, text), 80);
        CHECKS.says("or the text's length");
        CHECKS.dueFault(Texts.full(3001).substring(0, 3000));
        CHECKS.dueFault(Texts.full(2999).substring(0, 2998));
    }

    private static void layers() {
        CHECKS.says("LAYERS, at most 80; for an 81st layer the first character of its LINE");
        String most = "copper A 1 1\n" + "core C 1 1\n".repeat(78);
        CHECKS.dueLayers(most + "copper B 1 1\n", 80);
        CHECKS.dueLayers("mask M 1 1\n" + most.replaceFirst("core C 1 1\n", "") + "copper B 1 1\n", 80);
        CHECKS.dueLayers("copper A 1 1\ncore C 1 1\n" + "spare S\n".repeat(76) + "copper B 1 1\nmask M 1 1\n", 80);
        CHECKS.dueFault(most + "copper B 1 1\n@mask");
        CHECKS.dueFault(most + "copper B 1 1\nmas@");
        CHECKS.dueFault(most + "copper B 1 1\n@core C 1 1\n");
        CHECKS.dueFault(most + "core C 1 1\n@copper B 1 1\n");
        CHECKS.dueFault(most + "spare S\n@spare S\n");
        CHECKS.dueFault(most + "core C 1 1\n@");
        CHECKS.dueFault(most + "core C 1 1\n@press A B\n");
        CHECKS.says("A list's row for a layer: true");
        LayerStacks x = Checks.stackOf(most + "copper B 1 1\n");
        for (int list = 0; list < 8; list++) {
            CHECKS.due("list", x.list(), list);
            CHECKS.due("changes at first", x.changes(list), 80);
            CHECKS.due("match", x.match(), 0);
            for (int layer = 79; layer >= list; layer--) {
                CHECKS.due("row", x.row(list, layer, 1000, 1000), true);
            }
            CHECKS.due("changes", x.changes(list), list);
        }
        CHECKS.dueIndex("row of layer 80", () -> x.row(0, 80, 0, 0) ? 1 : 0);
    }

    private static void coppers() {
        CHECKS.says("A STACK has 2 to 32 copper layers; for a 33rd copper one the first character of its LINE");
        CHECKS.dueLayers(Texts.coppers(31), 61);
        CHECKS.dueLayers(Texts.coppers(32), 63);
        CHECKS.dueLayers("mask M 1 1\n" + Texts.coppers(32) + "mask M 1 1\n", 65);
        CHECKS.dueFault(Texts.coppers(32) + "core k 1 1\n@copper");
        CHECKS.dueFault(Texts.coppers(32) + "core k 1 1\n@copper C32 1 1\n");
        CHECKS.dueFault(Texts.coppers(32) + "core k 1 1\n@copper C0 1 1\n");
        CHECKS.dueFault(Texts.coppers(32) + "core k 1 1\ncoppe@");
        CHECKS.dueFault(Texts.coppers(32) + "core k 1 1\n@");
        CHECKS.due("written", Checks.written(Checks.stackOf(Texts.coppers(32))), Texts.coppers(32));
    }

    private static void presses() {
        CHECKS.says("for a 21st press the first character of its LINE");
        StringBuilder twenty = new StringBuilder();
        for (int last = 20; last > 0; last--) {
            twenty.append("press C0 C").append(last).append('\n');
        }
        for (int coppers = 21; coppers <= 22; coppers++) {
            String text = Texts.coppers(coppers) + twenty;
            int layers = 2 * coppers - 1;
            String lessOne = text.substring(0, text.length() - "press C0 C1\n".length());
            CHECKS.dueLayers(lessOne, layers);
            CHECKS.dueLayers(text, layers);
            CHECKS.dueFault(text + "@press");
            CHECKS.dueFault(text + "pres@");
            CHECKS.dueFault(text + "@press C0 C21\n");
            CHECKS.dueFault(text + "@press C1 C2\n");
            CHECKS.dueFault(text + "@press nobody");
            CHECKS.dueLayers(text + "via C0 C20\nvia C0 C1\n", layers);
        }
        CHECKS.says("VIAS: as many as there are PRESSINGS, 21 at most");
        StringBuilder all = new StringBuilder(Texts.coppers(22)).append(twenty);
        for (int last = 1; last <= 21; last++) {
            all.append("via C0 C").append(last).append('\n');
        }
        CHECKS.dueLayers(all.toString(), 43);
        CHECKS.dueFault(all + "@via C0 C1\n");
    }

    private static void sums() {
        CHECKS.says("The sum of all LOW (end 0) or HIGH (1) ends");
        String cores = "core C 9999.999 50\n".repeat(78);
        LayerStacks x = Checks.stackOf("copper A 9999.999 50\n" + cores + "copper B 9999.999 49.9\n");
        CHECKS.due("low", x.sum(0, 0) + "/" + x.sum(0, 1), "400009959999/1000");
        CHECKS.due("high", x.sum(1, 0) + "/" + x.sum(1, 1), "1199989880001/1000");
        x.copper(1, 999, 1000);
        CHECKS.due("low, of a share", x.sum(0, 0) + "/" + x.sum(0, 1), "400004949999501/1000000");
        CHECKS.due("high, of a share", x.sum(1, 0) + "/" + x.sum(1, 1), "1199974890002499/1000000");
    }
}
