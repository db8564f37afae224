import java.util.ArrayList;
import java.util.List;

/** "Terms": the bounds of what a text may tell, the last that is allowed and the first that is not. */
public final class TermsTest {
    private static final Checks CHECKS = new Checks();
    private static final String[] KINDS = {"copper", "core", "prepreg", "mask", "spare"};

    public static void main(String[] args) {
        layers();
        namesByLength();
        namesByCharacter();
        thicknesses();
        spreads();
        copperNames();
        stacks();
        numberOfCoppers();
        pressings();
        vias();
        linesAndWords();
        CHECKS.end();
    }

    private static void layers() {
        CHECKS.says("LAYERS, numbered from 0 from the highest on, are of a KIND:"
                + " 0 copper, 1 core, 2 prepreg, 3 mask, 4 spare");
        LayerStacks x = Checks.stackOf("mask M 1 1\ncopper A 1 1\ncore K 1 1\nspare S\nprepreg P 1 1\ncopper B 1 1\n");
        int[] kinds = {3, 0, 1, 4, 2, 0};
        for (int layer = 0; layer < kinds.length; layer++) {
            CHECKS.due("kind of " + layer, x.kind(layer), kinds[layer]);
        }
        CHECKS.dueIndex("behind the last one", () -> x.kind(6));
        CHECKS.says("a spare one: KIND NAME");
        CHECKS.dueFault("copper A 1 1\nspare S@ 1 1\n");
        CHECKS.says("KIND NAME THICKNESS SPREAD for each layer");
        CHECKS.dueFault("copper A@\n");
        CHECKS.dueFault("copper A 1@\n");
        CHECKS.dueFault("copper A 1 1@ 1\n");
    }

    /** A text with this NAME in a line of a kind. */
    private static String named(String kind, String name) {
        String line = kind + " " + name + (kind.equals("spare") ? "\n" : " 1 1\n");
        switch (kind) {
            case "mask":
                return line + Texts.LEAST;
            case "copper":
                return line + "core K 1 1\ncopper other 1 1\n";
            default:
                return "copper A 1 1\n" + line + "core K 1 1\ncopper B 1 1\n";
        }
    }

    private static int placeOfName(String kind) {
        boolean isFirst = kind.equals("mask") || kind.equals("copper");
        return (isFirst ? 0 : "copper A 1 1\n".length()) + kind.length() + 1;
    }

    private static void namesByLength() {
        CHECKS.says("a NAME (one to eight letters or digits)");
        for (String kind : KINDS) {
            int place = placeOfName(kind);
            int layers = named(kind, "N").split("\n").length;
            CHECKS.dueFaultAt(named(kind, ""), place);
            CHECKS.dueLayers(named(kind, "N"), layers);
            CHECKS.dueLayers(named(kind, "7"), layers);
            CHECKS.dueLayers(named(kind, "Abcdefg8"), layers);
            CHECKS.dueLayers(named(kind, "00000000"), layers);
            CHECKS.dueFaultAt(named(kind, "Abcdefg89"), place + 8);
            CHECKS.dueFaultAt(named(kind, "000000000"), place + 8);
        }
        String two = "copper Abcdefg8 1 1\ncore K 1 1\ncopper Abcdefg9 1 1\n";
        CHECKS.dueLayers(two + "press Abcdefg8 Abcdefg9\nvia Abcdefg8 Abcdefg9\n", 3);
        CHECKS.dueFault(two + "press @ Abcdefg9\n");
        CHECKS.dueFault(two + "press Abcdefg8@9 Abcdefg9\n");
        CHECKS.dueFault(two + "press Abcdefg8 @\n");
        CHECKS.dueFault(two + "press Abcdefg8 Abcdefg9@9\n");
        CHECKS.dueFault(two + "via @ Abcdefg9\n");
        CHECKS.dueFault(two + "via Abcdefg8@x Abcdefg9\n");
        CHECKS.dueFault(two + "via Abcdefg8 Abcdefg9@x\n");
    }

    private static boolean isLetterOrDigit(char character) {
        return "0123456789ABCDEFGHIJKLMNOPQRSTUVWXYZabcdefghijklmnopqrstuvwxyz".indexOf(character) >= 0;
    }

    private static void namesByCharacter() {
        CHECKS.says("a NAME (one to eight letters or digits)");
        for (char character = 10; character < 127; character = character == 10 ? 32 : (char) (character + 1)) {
            for (String kind : KINDS) {
                int layers = named(kind, "N").split("\n").length;
                int place = placeOfName(kind);
                if (isLetterOrDigit(character)) {
                    CHECKS.dueLayers(named(kind, "" + character), layers);
                    CHECKS.dueLayers(named(kind, "n" + character), layers);
                } else {
                    CHECKS.dueFaultAt(named(kind, "" + character), place);
                    // A space, or a spare one's line feed, ends the NAME; the next character is the one.
                    boolean isEnd = character == (kind.equals("spare") ? '\n' : ' ');
                    CHECKS.dueFaultAt(named(kind, "n" + character), place + (isEnd ? 2 : 1));
                }
            }
        }
    }

    private static void thickness(String told, int nanometres) {
        LayerStacks x = Checks.stackOf(Texts.between("core C " + told + " 0"));
        CHECKS.due("THICKNESS " + told, x.thick(1, 0, 0), nanometres);
        CHECKS.due("THICKNESS " + told + ", by", x.thick(1, 0, 1), 1);
    }

    private static void thicknesses() {
        CHECKS.says("a THICKNESS (whole nanometres, 0 .. 9,999,999)");
        thickness("0", 0);
        thickness("0.001", 1);
        thickness("9999.998", 9_999_998);
        thickness("9999.999", 9_999_999);
        CHECKS.says("THICKNESS: in thousands, one to four digits");
        thickness("7", 7000);
        thickness("17", 17_000);
        thickness("217", 217_000);
        thickness("3217", 3_217_000);
        thickness("0000", 0);
        thickness("0008", 8000);
        CHECKS.dueFault("copper A @ 1\n");
        CHECKS.dueFault("copper A @.5 1\n");
        CHECKS.dueFault("copper A @-1 1\n");
        CHECKS.dueFault("copper A @+1 1\n");
        CHECKS.dueFault("copper A @x 1\n");
        CHECKS.dueFault("copper A @/ 1\n");
        CHECKS.dueFault("copper A @: 1\n");
        CHECKS.dueFault("copper A 1000@0 1\n");
        CHECKS.dueFault("copper A 0000@0 1\n");
        CHECKS.dueFault("copper A 9999@9.9 1\n");
        CHECKS.says("perhaps . and one to three digits");
        thickness("1.5", 1500);
        thickness("1.25", 1250);
        thickness("1.125", 1125);
        thickness("0000.000", 0);
        thickness("0.010", 10);
        CHECKS.dueFault("copper A 1.@ 1\n");
        CHECKS.dueFault("copper A 9999.@ 1\n");
        CHECKS.dueFault("copper A 1.@x 1\n");
        CHECKS.dueFault("copper A 1.125@0 1\n");
        CHECKS.dueFault("copper A 0.000@0 1\n");
        CHECKS.dueFault("copper A 1.2@.3 1\n");
        CHECKS.dueFault("copper A 1@,5 1\n");
        CHECKS.dueFault("copper A 1@e3 1\n");
    }

    private static void spread(String told, int thousandths) {
        LayerStacks x = Checks.stackOf(Texts.between("core C 1 " + told));
        CHECKS.due("SPREAD " + told + ", low", x.thick(1, 0, 0), 1000 - thousandths);
        CHECKS.due("SPREAD " + told + ", high", x.thick(1, 1, 0), 1000 + thousandths);
        CHECKS.due("SPREAD " + told + ", by", x.thick(1, 1, 1), 1);
    }

    private static void spreads() {
        CHECKS.says("a SPREAD (0 .. 500 thousandths)");
        spread("0", 0);
        spread("0.1", 1);
        spread("49.9", 499);
        spread("50", 500);
        spread("50.0", 500);
        CHECKS.dueFault("copper A 1 @50.1\n");
        CHECKS.dueFault("copper A 1 @51\n");
        CHECKS.dueFault("copper A 1 @99\n");
        CHECKS.dueFault("copper A 1 @99.9\n");
        CHECKS.says("SPREAD in tens: one or two digits");
        spread("7", 70);
        spread("17", 170);
        spread("00", 0);
        spread("05", 50);
        CHECKS.dueFault("copper A 1 @\n");
        CHECKS.dueFault("copper A 1 @.5\n");
        CHECKS.dueFault("copper A 1 @-1\n");
        CHECKS.dueFault("copper A 1 @x\n");
        CHECKS.dueFault("copper A 1 00@0\n");
        CHECKS.dueFault("copper A 1 10@0\n");
        CHECKS.says("perhaps . and one digit (50 at most)");
        spread("7.5", 75);
        spread("17.9", 179);
        spread("00.0", 0);
        CHECKS.dueFault("copper A 1 7.@\n");
        CHECKS.dueFault("copper A 1 7.@x\n");
        CHECKS.dueFault("copper A 1 7.5@0\n");
        CHECKS.dueFault("copper A 1 0.0@0\n");
        CHECKS.dueFault("copper A 1 7.5@.\n");
    }

    private static void copperNames() {
        CHECKS.says("COPPER layers have different names");
        CHECKS.dueFault("copper A 1 1\ncore C 1 1\ncopper @A 1 1\n");
        CHECKS.dueFault("copper A 1 1\ncore C 1 1\ncopper B 1 1\ncore C 1 1\ncopper @A 1 1\n");
        CHECKS.dueFault("copper A 1 1\ncore C 1 1\ncopper B 1 1\ncore C 1 1\ncopper @B 1 1\n");
        CHECKS.dueFault("copper Abcdefg8 1 1\ncore C 1 1\ncopper @Abcdefg8 1 1\n");
        CHECKS.dueLayers("copper A 1 1\ncore C 1 1\ncopper a 1 1\n", 3);
        CHECKS.dueLayers("copper 0 1 1\ncore C 1 1\ncopper 00 1 1\n", 3);
        CHECKS.dueLayers("copper Abcdefg8 1 1\ncore C 1 1\ncopper Abcdefg9 1 1\n", 3);
        CHECKS.dueLayers("copper Abcdefg8 1 1\ncore C 1 1\ncopper bbcdefg8 1 1\n", 3);
        CHECKS.dueLayers("copper Abcdefg8 1 1\ncore C 1 1\ncopper Abcdefg 1 1\n", 3);
        CHECKS.dueLayers("mask A 1 1\ncopper A 1 1\ncore A 1 1\nspare A\ncore B 1 1\ncopper B 1 1\nmask B 1 1\n", 7);
        CHECKS.says("COPPER layers have numbers from 0 on, too");
        LayerStacks x = Checks.stackOf("mask M 1 1\n" + Texts.LEAST);
        CHECKS.due("the first one's", x.role(1), 0);
        CHECKS.due("the second one's", x.role(3), 1);
    }

    /** Whether layers of these kinds, a letter each, are a stack, by the document's three sentences on it. */
    private static boolean isStack(String kinds) {
        String inner = kinds.substring(kinds.startsWith("m") ? 1 : 0);
        inner = inner.substring(0, inner.length() - (inner.endsWith("m") ? 1 : 0));
        if (inner.length() < 2 || inner.contains("m") || !inner.startsWith("c") || !inner.endsWith("c")) {
            return false;
        }
        for (String between : inner.substring(1, inner.length() - 1).split("c", -1)) {
            if (!between.contains("k") && !between.contains("p")) {
                return false;
            }
        }
        return true;
    }

    /** Whether the last layer can stand: all goes on to a stack, or it is a mask behind the one copper layer. */
    private static boolean goesOn(String kinds) {
        for (String rest : List.of("", "c", "kc", "ckc")) {
            if (isStack(kinds + rest)) {
                return true;
            }
        }
        return kinds.equals("cm") || kinds.equals("mcm");
    }

    private static int placeOfFault(String kinds) {
        for (int layer = 0; layer < kinds.length(); layer++) {
            if (!goesOn(kinds.substring(0, layer + 1))) {
                return Texts.ofKinds(kinds.substring(0, layer)).length();
            }
        }
        return Texts.ofKinds(kinds).length();
    }

    /** All rows of up to six kinds. */
    private static void stacks() {
        CHECKS.says("masks are but the first and the last layer; between two copper ones next to one another there is"
                + " a core or a prepreg at least, ahead of the first and behind the last one nothing but a mask");
        List<String> all = new ArrayList<>(List.of(""));
        for (int i = 0; i < all.size(); i++) {
            String kinds = all.get(i);
            int want = isStack(kinds) ? kinds.length() : -1 - placeOfFault(kinds);
            CHECKS.due(kinds, Checks.read(new LayerStacks(), Texts.ofKinds(kinds)), want);
            for (char kind : "ckpms".toCharArray()) {
                if (kinds.length() < 6) {
                    all.add(kinds + kind);
                }
            }
        }
    }

    private static void numberOfCoppers() {
        CHECKS.says("A STACK has 2 to 32 copper layers");
        CHECKS.dueFault("");
        CHECKS.dueFault("mask M 1 1\n");
        CHECKS.dueFault("copper A 1 1\n");
        CHECKS.dueFault("mask M 1 1\ncopper A 1 1\nmask M 1 1\n");
        CHECKS.dueLayers(Texts.coppers(2), 3);
        CHECKS.dueLayers(Texts.coppers(20), 39);
    }

    private static String pair(String word, int first, int last) {
        return word + " " + (char) ('A' + first) + " " + (char) ('A' + last) + "\n";
    }

    /** The copper layers from one to another, a bit each. */
    private static int joined(int first, int last) {
        return (2 << last) - (1 << first);
    }

    /** All rows of three presses of five copper layers. */
    private static void pressings() {
        CHECKS.says("each two of them have no copper layer in common, or one has all of the other one's (and others)");
        String layers = Texts.ofKinds("ckckckckc");
        for (int row = 0; row < 1000; row++) {
            StringBuilder text = new StringBuilder(layers);
            List<Integer> told = new ArrayList<>();
            int want = 9;
            for (int span = row + 1000; span > 1; span /= 10) {
                int[] ends = spanOfFive(span % 10);
                int joined = joined(ends[0], ends[1]);
                for (int other : told) {
                    int common = joined & other;
                    boolean isFine = common == 0 || joined != other && (common == joined || common == other);
                    want = isFine || want < 0 ? want : -1 - text.length();
                }
                told.add(joined);
                text.append(pair("press", ends[0], ends[1]));
            }
            CHECKS.due(text.substring(layers.length()), Checks.read(new LayerStacks(), text.toString()), want);
        }
        CHECKS.says("PRESSINGS join copper layers from one to another behind it");
        CHECKS.dueFault(layers + "press C @C\n");
        CHECKS.dueFault(layers + "press C @B\n");
        CHECKS.dueLayers(layers + "press C D\n", 9);
        CHECKS.says("The last one is that of all copper layers, and need not be told");
        CHECKS.due("untold", Checks.stackOf(layers).pressed(0, 1), 4);
        CHECKS.due("told", Checks.stackOf(layers + "press A E\n").pressed(0, 1), 4);
        CHECKS.dueIndex("once only", () -> Checks.stackOf(layers + "press A E\n").pressed(1, 0));
    }

    private static int[] spanOfFive(int number) {
        int left = number;
        for (int first = 0; first < 5; first++) {
            for (int last = first + 1; last < 5; last++) {
                if (left == 0) {
                    return new int[] {first, last};
                }
                left--;
            }
        }
        throw new AssertionError(number);
    }

    private static void vias() {
        CHECKS.says("A VIA is told between two copper layers, the ends of a PRESSING");
        String layers = Texts.ofKinds("ckckckckc");
        for (int press = 0; press < 10; press++) {
            int[] ends = spanOfFive(press);
            String text = layers + pair("press", ends[0], ends[1]);
            for (int via = 0; via < 10; via++) {
                int[] viaEnds = spanOfFive(via);
                boolean isOne = via == press || viaEnds[0] == 0 && viaEnds[1] == 4;
                String line = pair("via", viaEnds[0], viaEnds[1]);
                CHECKS.due(text + line, Checks.read(new LayerStacks(), text + line), isOne ? 9 : -1 - text.length());
            }
        }
        CHECKS.dueLayers(layers + "via A E\n", 9);
        CHECKS.dueFault(layers + "@via A D\n");
        CHECKS.dueFault(layers + "@via B E\n");
    }

    /** The SIX text with one character more, behind or ahead of a place. */
    private static void linesAndWords() {
        CHECKS.says("in words with one space between");
        String text = Texts.SIX;
        for (int place = 0; place < text.length(); place++) {
            if (text.charAt(place) == ' ') {
                CHECKS.dueFaultAt(text.substring(0, place) + ' ' + text.substring(place), place + 1);
            }
            if (text.charAt(place) == '\n') {
                CHECKS.dueFaultAt(text.substring(0, place) + ' ' + text.substring(place), place);
                CHECKS.dueFaultAt(text.substring(0, place + 1) + ' ' + text.substring(place + 1), place + 1);
            }
        }
        CHECKS.says("LINES, each with a line feed (10) at its end");
        for (int place = 0; place < text.length(); place++) {
            if (text.charAt(place) == '\n') {
                CHECKS.dueFaultAt(text.substring(0, place + 1) + '\n' + text.substring(place + 1), place + 1);
                CHECKS.dueFaultAt(text.substring(0, place) + ' ' + text.substring(place + 1), place);
                CHECKS.dueFaultAt(text.substring(0, place), place);
            }
        }
        CHECKS.dueFaultAt("\n" + text, 0);
        CHECKS.dueFaultAt(" " + text, 0);
        CHECKS.says("for each layer; then press NAME NAME for PRESSINGS, then via NAME NAME for VIAS");
        CHECKS.dueFault(Texts.LEAST + "press A B\n@core C 1 1\n");
        CHECKS.dueFault(Texts.LEAST + "via A B\n@core C 1 1\n");
        CHECKS.dueFault(Texts.LEAST + "via A B\n@press A B\n");
        CHECKS.dueFault(Texts.LEAST + "press A B@ A\n");
        CHECKS.dueFault(Texts.LEAST + "press A@\n");
        CHECKS.dueFault(Texts.LEAST + "via A B@ A\n");
        CHECKS.dueFault(Texts.LEAST + "via A@\n");
        CHECKS.dueLayers(Texts.LEAST + "press A B\nvia A B\n", 3);
    }
}
