/** Promises 1 to 3: a new object, the text, its reading, and where each fault lies. */
public final class ReadTest {
    private static final Checks CHECKS = new Checks();

    public static void main(String[] args) {
        newObject();
        units();
        readings();
        whatStays();
        shorterBehindLonger();
        fullTexts();
        faultsOfWords();
        faultsOfNames();
        faultsOfNumbers();
        faultsOfLayers();
        faultsOfStacks();
        faultsOfPressings();
        faultsOfVias();
        prefixes();
        CHECKS.end();
    }

    private static void newObject() {
        LayerStacks x = new LayerStacks();
        CHECKS.due("new: read", x.read(), -1);
        CHECKS.due("new: skew", x.skew(0), LayerStacks.NONE);
        CHECKS.due("new: match", x.match(), LayerStacks.NONE);
        CHECKS.due("new: sum above", x.sum(1, 0), 0);
        CHECKS.due("new: sum below", x.sum(1, 1), 1);
        CHECKS.dueIndex("new: kind", () -> x.kind(0));
        CHECKS.dueIndex("new: role", () -> x.role(0));
        CHECKS.dueIndex("new: thick", () -> x.thick(0, 0, 0));
        CHECKS.dueIndex("new: pressed", () -> x.pressed(0, 0));
        CHECKS.dueIndex("new: changes", () -> x.changes(0));
        CHECKS.dueIndex("new: copper", () -> x.copper(0, 1, 1) ? 1 : 0);
        CHECKS.dueIndex("new: via", () -> x.via(0, 1) ? 1 : 0);
        CHECKS.dueIndex("new: row", () -> x.row(0, 0, 0, 0) ? 1 : 0);
        CHECKS.dueState("new: list", () -> x.list());
        CHECKS.dueState("new: write", () -> x.write(0));
    }

    private static void units() {
        LayerStacks x = new LayerStacks();
        int[] none = {Integer.MIN_VALUE, -1, 0, 9, 11, 13, 31, 127, 128, 256 + 'a', 65536 + 'a', Integer.MAX_VALUE};
        for (int u : none) {
            CHECKS.due("unit " + u, x.unit(u), false);
        }
        CHECKS.due("nothing came", x.read(), -1);
        CHECKS.due("unit 'c'", x.unit('c'), true);
        CHECKS.due("unit 10", x.unit(10), true);
        CHECKS.due("read behind c", x.read(), -2);
        for (int u = 32; u <= 126; u++) {
            CHECKS.due("unit " + u, x.unit(u), true);
        }
        for (int i = 97; i < 3000; i++) {
            CHECKS.due("unit at " + i, x.unit(32), true);
        }
        CHECKS.due("the 3,001st", x.unit(32), false);
        CHECKS.due("the 3,001st again", x.unit('a'), false);
    }

    private static void readings() {
        CHECKS.dueLayers(Texts.LEAST, 3);
        CHECKS.dueLayers(Texts.SIX, 14);
        CHECKS.dueLayers("mask m 0 0\n" + Texts.LEAST + "mask m 9999.999 50\n", 5);
        CHECKS.dueLayers("copper A 1 1\nspare s\nspare s\nprepreg P 1 1\nspare A\ncopper B 1 50.0\n", 6);
        CHECKS.dueLayers("copper abcdefgh 1 1\ncore abcdefgh 1 1\ncopper ABCDEFGH 1 1\n", 3);
        CHECKS.dueLayers("copper 0 1 1\ncore C 1 1\ncopper 00 1 1\npress 0 00\nvia 0 00\n", 3);
        CHECKS.dueLayers(Texts.coppers(32), 63);
    }

    private static void whatStays() {
        LayerStacks x = Checks.stackOf(Texts.SIX);
        CHECKS.due("the text is gone", x.read(), -1);
        CHECKS.due("list", x.list(), 0);
        CHECKS.due("share", x.copper(0, 1, 2), true);
        Checks.feed(x, Texts.LEAST + "pre");
        CHECKS.due("fault", x.read(), -1 - Texts.LEAST.length() - 3);
        CHECKS.due("the stack stays", x.kind(0), 3);
        CHECKS.due("the lists stay", x.match(), 0);
        CHECKS.due("the shares stay", x.copper(0, 1, 2), false);
        CHECKS.due("the via stays", x.via(0, 5), true);
        Checks.feed(x, "ss A B\n");
        CHECKS.due("the text goes on", x.read(), 3);
        CHECKS.due("the stack is new", x.kind(0), 0);
        CHECKS.due("the lists are gone", x.match(), LayerStacks.NONE);
        CHECKS.due("the shares are 1000", x.copper(0, 1000, 1000), false);
        CHECKS.due("the via is gone", x.via(0, 1), false);
        CHECKS.due("the pressings are new", x.pressed(0, 1), 1);
        CHECKS.dueIndex("no other pressing", () -> x.pressed(1, 0));
        Checks.feed(x, Texts.SIX);
        CHECKS.due("one more stack", x.read(), 14);
        CHECKS.due("shares of one more stack", x.copper(0, 1, 1), false);
    }

    /** What an earlier text left behind the end of this one is no part of it. */
    private static void shorterBehindLonger() {
        int layersEnd = Texts.SIX.indexOf("press");
        for (int end = 0; end < layersEnd; end++) {
            String part = Texts.SIX.substring(0, end);
            LayerStacks fresh = new LayerStacks();
            Checks.feed(fresh, part);
            LayerStacks used = Checks.stackOf(Texts.SIX);
            Checks.feed(used, part);
            CHECKS.due("part " + end + " behind a longer text", used.read(), fresh.read());
        }
    }

    private static void fullTexts() {
        String text = Texts.full(3000);
        LayerStacks x = Checks.stackOf(text);
        CHECKS.due("its length", text.length(), 3000);
        CHECKS.due("written", Checks.written(x), text);
        CHECKS.due("the last character", x.write(2999), '\n');
        CHECKS.due("behind it", x.write(3000), LayerStacks.NONE);
        CHECKS.due("the last layer", x.role(79), 31);
        CHECKS.due("the last pressing", x.pressed(20, 1), 31);
        CHECKS.dueFault(Texts.full(3001).substring(0, 3000));
        CHECKS.dueFault(Texts.full(2999).substring(0, 2998));
    }

    private static void faultsOfWords() {
        CHECKS.dueFault("@");
        CHECKS.dueFault("@\n");
        CHECKS.dueFault("@ copper");
        CHECKS.dueFault("@Copper A");
        CHECKS.dueFault("@1");
        CHECKS.dueFault("co@");
        CHECKS.dueFault("co@x");
        CHECKS.dueFault("co@ ");
        CHECKS.dueFault("cop@\n");
        CHECKS.dueFault("pre@x");
        CHECKS.dueFault("prep@s");
        CHECKS.dueFault("pres@r");
        CHECKS.dueFault("vi@ ");
        CHECKS.dueFault("vi@");
        CHECKS.dueFault("s@");
        CHECKS.dueFault("copper@s A 1 1");
        CHECKS.dueFault("copper@");
        CHECKS.dueFault("copper@\nA");
        CHECKS.dueFault("copper @ A");
        CHECKS.dueFault("copper A 1 1\n@\n");
        CHECKS.dueFault("copper A 1 1\ncor@r");
        CHECKS.dueFault(Texts.LEAST + "pres@");
        CHECKS.dueFault(Texts.LEAST + "@ ");
        CHECKS.dueFault(Texts.LEAST + "via A B\nprep@s");
        CHECKS.dueFault("copper A 1 1\n@copperx");
    }

    private static void faultsOfNames() {
        CHECKS.dueFault("copper @");
        CHECKS.dueFault("copper @\n");
        CHECKS.dueFault("copper @-");
        CHECKS.dueFault("copper A@-B");
        CHECKS.dueFault("copper A@");
        CHECKS.dueFault("copper AZaz09@");
        for (char character : "@[`{/:_ .".toCharArray()) {
            LayerStacks x = new LayerStacks();
            Checks.feed(x, "copper " + character);
            CHECKS.due("name of " + character, x.read(), -8);
        }
        CHECKS.dueFault("copper A@\n");
        CHECKS.dueFault("copper ABCDEFGH@I 1 1");
        CHECKS.dueFault("copper ABCDEFGH@");
        CHECKS.dueFault("copper ABCDEFGH@+");
        CHECKS.dueFault("copper A 1 1\ncore C 1 1\ncopper @A");
        CHECKS.dueFault("copper A 1 1\ncore C 1 1\ncopper @A?");
        CHECKS.dueFault("copper A 1 1\ncore C 1 1\ncopper AA@");
        CHECKS.dueFault("copper A 1 1\ncore C 1 1\ncopper C@");
        CHECKS.dueFault("copper A 1 1\ncore C 1 1\ncopper a@");
        CHECKS.dueFault("copper A 1 1\ncore A@");
        CHECKS.dueFault("copper ABCDEFGH 1 1\ncore C 1 1\ncopper @ABCDEFGH 1 1");
        CHECKS.dueFault("copper ABCDEFGH 1 1\ncore C 1 1\ncopper ABCDEFGH@I 1 1");
        CHECKS.dueFault("copper A 1 1\nspare S@ 1 1\n");
        CHECKS.dueFault("copper A 1 1\nspare S@");
        CHECKS.dueFault("copper A 1 1\nspare @\n");
        CHECKS.dueFault("copper A 1 1\nspare ABCDEFGH@0\n");
    }

    private static void faultsOfNumbers() {
        CHECKS.dueFault("copper A @");
        CHECKS.dueFault("copper A @.5 1");
        CHECKS.dueFault("copper A @-1 1");
        CHECKS.dueFault("copper A @x");
        CHECKS.dueFault("copper A 1@");
        CHECKS.dueFault("copper A 1@x");
        CHECKS.dueFault("copper A 1@\n");
        CHECKS.dueFault("copper A 1.@");
        CHECKS.dueFault("copper A 1.@ 1");
        CHECKS.dueFault("copper A 1.2@.3");
        CHECKS.dueFault("copper A 9999@9 1");
        CHECKS.dueFault("copper A 0000@0 1");
        CHECKS.dueFault("copper A 1.234@5 1");
        CHECKS.dueFault("copper A 1.234@");
        CHECKS.dueFault("copper A 1 @");
        CHECKS.dueFault("copper A 1 @ 1");
        CHECKS.dueFault("copper A 1 @\n");
        CHECKS.dueFault("copper A 1 1@");
        CHECKS.dueFault("copper A 1 1@ ");
        CHECKS.dueFault("copper A 1 1@ \n");
        CHECKS.dueFault("copper A 1 1.@");
        CHECKS.dueFault("copper A 1 1.@\n");
        CHECKS.dueFault("copper A 1 50@");
        CHECKS.dueFault("copper A 1 50.0@");
        CHECKS.dueFault("copper A 1 @51");
        CHECKS.dueFault("copper A 1 @51\n");
        CHECKS.dueFault("copper A 1 @99x");
        CHECKS.dueFault("copper A 1 @50.1");
        CHECKS.dueFault("copper A 1 @50.1\ncopper");
        CHECKS.dueFault("copper A 1 @50.1.");
        CHECKS.dueFault("copper A 1 51.@");
        CHECKS.dueFault("copper A 1 51.@\n");
        CHECKS.dueFault("copper A 1 99@9\n");
        CHECKS.dueFault("copper A 1 10@0\n");
        CHECKS.dueFault("copper A 1 50.1@1\n");
        CHECKS.dueFault("copper A 1 1.1@1\n");
    }

    private static void faultsOfLayers() {
        CHECKS.dueFault("@core");
        CHECKS.dueFault("@prepreg P 1 1\n");
        CHECKS.dueFault("@spare S\n");
        CHECKS.dueFault("cor@");
        CHECKS.dueFault("mask M 1 1\n@mask");
        CHECKS.dueFault("mask M 1 1\n@core");
        CHECKS.dueFault("mask M 1 1\n@prepreg");
        CHECKS.dueFault("mask M 1 1\n@spare");
        CHECKS.dueFault("mask M 1 1\n@press");
        CHECKS.dueFault("mask M 1 1\ncopper@");
        CHECKS.dueFault("copper A 1 1\n@copper");
        CHECKS.dueFault("copper A 1 1\nspare S\n@copper");
        CHECKS.dueFault("copper A 1 1\nspare S\n@mask");
        CHECKS.dueFault("copper A 1 1\ncore C 1 1\n@mask");
        CHECKS.dueFault("copper A 1 1\nprepreg C 1 1\n@mask M 1 1\n");
        CHECKS.dueFault("copper A 1 1\ncore C 1 1\nspare S\ncopper@");
        CHECKS.dueFault("copper A 1 1\ncore C 1 1\ncopper B 1 1\nspare S\n@copper");
        CHECKS.dueFault("copper A 1 1\nmask M 1 1\n@copper");
        CHECKS.dueFault("copper A 1 1\nmask M 1 1\n@core");
        CHECKS.dueFault("copper A 1 1\nmask M 1 1\n@mask");
        CHECKS.dueFault(Texts.LEAST + "mask M 1 1\n@spare");
        CHECKS.dueFault(Texts.LEAST + "mask M 1 1\n@mask");
        CHECKS.dueFault(Texts.LEAST + "mask M 1 1\nmas@");
        CHECKS.dueFault(Texts.LEAST + "press A B\n@core");
        CHECKS.dueFault(Texts.LEAST + "via A B\n@mask M 1 1\n");
        CHECKS.dueFault(Texts.coppers(32) + "core k 1 1\n@copper");
        CHECKS.dueFault(Texts.coppers(32) + "core k 1 1\ncoppe@");
        String many = "copper A 1 1\n" + "core C 1 1\n".repeat(78);
        CHECKS.dueLayers(many + "copper B 1 1\n", 80);
        CHECKS.dueFault(many + "copper B 1 1\n@mask");
        CHECKS.dueFault(many + "core C 1 1\n@copper");
        CHECKS.dueFault(many + "spare S\n@spare S\n");
    }

    private static void faultsOfStacks() {
        CHECKS.dueFault("copper A 1 1\n@");
        CHECKS.dueFault("copper A 1 1\n@press");
        CHECKS.dueFault("@press");
        CHECKS.dueFault("@via A B");
        CHECKS.dueFault("mask M 1 1\ncopper A 1 1\nmask M 1 1\n@");
        CHECKS.dueFault("copper A 1 1\ncore C 1 1\n@");
        CHECKS.dueFault(Texts.LEAST + "core C 1 1\n@");
        CHECKS.dueFault(Texts.LEAST + "core C 1 1\n@via A B\n");
        CHECKS.dueFault(Texts.LEAST + "spare S\n@press A B\n");
        CHECKS.dueFault(Texts.LEAST + "spare S\n@");
        CHECKS.dueFault(Texts.LEAST + "prepreg S 1 1\npre@");
    }

    private static void faultsOfPressings() {
        String four = Texts.coppers(4);
        CHECKS.dueFault(four + "press@");
        CHECKS.dueFault(four + "press@\n");
        CHECKS.dueFault(four + "press@x");
        CHECKS.dueFault(four + "press @ C0");
        CHECKS.dueFault(four + "press @C");
        CHECKS.dueFault(four + "press @k C1");
        CHECKS.dueFault(four + "press @X?");
        CHECKS.dueFault(four + "press C0@");
        CHECKS.dueFault(four + "press C0@\n");
        CHECKS.dueFault(four + "press C0 @\n");
        CHECKS.dueFault(four + "press C0 @C9\n");
        CHECKS.dueFault(four + "press C0 @C");
        CHECKS.dueFault(four + "press C0 C2345678@9");
        CHECKS.dueFault(four + "press C1 @C1\n");
        CHECKS.dueFault(four + "press C2 @C1\n");
        CHECKS.dueFault(four + "press C2 @C0");
        CHECKS.dueFault(four + "press C0 C1@");
        CHECKS.dueFault(four + "press C0 C1@ ");
        CHECKS.dueFault(four + "press C0 C1\n@press C1 C2\n");
        CHECKS.dueFault(four + "press C0 C1\n@press C1 C2");
        CHECKS.dueFault(four + "press C0 C1\n@press C1 C2?");
        CHECKS.dueFault(four + "press C0 C1\npress C1 @C");
        CHECKS.dueFault(four + "press C1 C2\n@press C0 C1\n");
        CHECKS.dueFault(four + "press C0 C2\n@press C1 C3\n");
        CHECKS.dueFault(four + "press C1 C3\n@press C0 C2\n");
        CHECKS.dueFault(four + "press C0 C1\n@press C0 C1\n");
        CHECKS.dueFault(four + "press C0 C3\n@press C0 C3\n");
        CHECKS.dueFault(four + "press C0 C3\npress C0 C1\n@press C0 C3\n");
        CHECKS.dueFault(four + "via C0 C3\n@press");
        CHECKS.dueFault(four + "via C0 C3\n@press C0 C1\n");
        CHECKS.dueLayers(four + "press C0 C1\npress C2 C3\npress C0 C3\n", 7);
        CHECKS.dueLayers(four + "press C0 C1\npress C0 C2\n", 7);
        CHECKS.dueLayers(four + "press C1 C3\npress C1 C2\n", 7);
        StringBuilder twenty = new StringBuilder(Texts.coppers(30));
        for (int last = 1; last <= 20; last++) {
            twenty.append("press C0 C").append(last).append('\n');
        }
        CHECKS.dueLayers(twenty.toString(), 59);
        CHECKS.dueFault(twenty + "@press");
        CHECKS.dueFault(twenty + "@press C0 C29\n");
        String withAll = Texts.coppers(21) + twenty.substring(twenty.indexOf("press"));
        CHECKS.dueLayers(withAll, 41);
        CHECKS.dueFault(withAll + "@press C1 C2\n");
        CHECKS.dueLayers(withAll + "via C0 C20\n", 41);
    }

    private static void faultsOfVias() {
        String four = Texts.coppers(4) + "press C1 C2\n";
        CHECKS.dueFault(four + "via@");
        CHECKS.dueFault(four + "via@s");
        CHECKS.dueFault(four + "via @C7 C1");
        CHECKS.dueFault(four + "via C1 @C7");
        CHECKS.dueFault(four + "via C2 @C1\n");
        CHECKS.dueFault(four + "via C1 @C1");
        CHECKS.dueFault(four + "@via C0 C1\n");
        CHECKS.dueFault(four + "@via C0 C1");
        CHECKS.dueFault(four + "via C1 C2@");
        CHECKS.dueFault(four + "via C1 C2\n@via C1 C2");
        CHECKS.dueFault(four + "via C0 C3\nvia C1 C2\n@via C0 C3\n");
        CHECKS.dueLayers(four + "via C0 C3\nvia C1 C2\n", 7);
        CHECKS.dueFault(Texts.coppers(4) + "@via C1 C2\n");
    }

    /** A part of a text that is no stack faults at its end, or at the press's or via's name that is cut. */
    private static void prefixes() {
        int layersEnd = Texts.SIX.indexOf("press");
        for (int end = 0; end < Texts.SIX.length(); end++) {
            String part = Texts.SIX.substring(0, end);
            LayerStacks x = new LayerStacks();
            Checks.feed(x, part);
            int got = x.read();
            if (end >= layersEnd && part.endsWith("\n")) {
                CHECKS.due("layers of part " + end, got, 14);
            } else if (part.matches("(?s).*copper.*\ncopper [^\n]*\n")) {
                CHECKS.due("layers of part " + end, got, part.split("\n").length);
            } else {
                boolean isNameCut = part.matches("(?s).*(press|via)( L.)? L");
                CHECKS.due("fault of part " + end, got, -1 - (isNameCut ? end - 1 : end));
            }
        }
    }
}
