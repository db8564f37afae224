/** "A FAULT's place": each place that the paragraph names, in its order, as far as 512 calls reach. */
public final class FaultTest {
    private static final Checks CHECKS = new Checks();
    private static final String[] WORDS = {"copper", "core", "prepreg", "mask", "spare", "press", "via"};
    private static final String A = "copper A 1 1\n";
    private static final String CORE = "core C 1 1\n";
    private static final String MASK = "mask M 1 1\n";
    private static final String SPARE = "spare S\n";
    private static final String FOUR = Texts.coppers(4);

    public static void main(String[] args) {
        firstCharacter();
        textsLength();
        firstWords();
        lastLetters();
        endedNames();
        endedNumbers();
        tooMany();
        layersThatCantStand();
        stacksThatAreNone();
        secondLayers();
        pressings();
        vias();
        CHECKS.end();
    }

    private static void firstCharacter() {
        CHECKS.says("that of the first character with which no such text goes on");
        String layers = Texts.SIX.substring(0, Texts.SIX.indexOf("press"));
        for (int place = 0; place < layers.length(); place++) {
            CHECKS.dueFaultAt(layers.substring(0, place) + "~" + layers.substring(place), place);
            CHECKS.dueFaultAt(layers.substring(0, place) + "~", place);
        }
        CHECKS.dueFault("copper @ A 1 1\n");
        CHECKS.dueFault("copper A@\n");
        CHECKS.dueFault("copper A 1@\n");
        CHECKS.dueFault("copper A 1 1@ \n");
        CHECKS.dueFault(A + "spare S@ 1 1\n");
        CHECKS.dueFault("copper@A 1 1\n");
        CHECKS.dueFault(A + "spare@S\n");
        CHECKS.dueFault(FOUR + "press@C0 C1\n");
        CHECKS.dueFault(FOUR + "press C0@-C1\n");
        CHECKS.dueFault(FOUR + "via@C0 C3\n");
        CHECKS.dueFault(FOUR + "press@\n");
        CHECKS.dueFault(FOUR + "press @ C1\n");
        CHECKS.dueFault(FOUR + "press C0@\n");
        CHECKS.dueFault(FOUR + "press C0 @\n");
        CHECKS.dueFault(FOUR + "press C0 C1@ \n");
        CHECKS.dueFault(FOUR + "press C0 C1@?\n");
        CHECKS.dueFault(FOUR + "via@\n");
        CHECKS.dueFault(FOUR + "via C0@\n");
        CHECKS.dueFault(FOUR + "via C0 @\n");
        CHECKS.dueFault(FOUR + "via C0 C3@ \n");
        CHECKS.dueFault(FOUR + "press C3@\n");
    }

    /** A part of a text that is no stack faults at its end, or at the press's or via's name that is cut. */
    private static void textsLength() {
        CHECKS.says("or the text's length");
        int layersEnd = Texts.SIX.indexOf("press");
        for (int end = 0; end < Texts.SIX.length(); end++) {
            String part = Texts.SIX.substring(0, end);
            int got = Checks.read(new LayerStacks(), part);
            if (end >= layersEnd && part.endsWith("\n")) {
                CHECKS.due("layers of part " + end, got, 14);
            } else if (part.matches("(?s).*copper.*\ncopper [^\n]*\n")) {
                CHECKS.due("layers of part " + end, got, part.split("\n").length);
            } else {
                boolean isNameCut = part.matches("(?s).*(press|via)( L.)? L");
                CHECKS.due("fault of part " + end, got, -1 - (isNameCut ? end - 1 : end));
            }
        }
        CHECKS.dueFault("");
        CHECKS.dueFault("copper A 1.");
        CHECKS.dueFault("copper A 1 1.");
        CHECKS.dueFault(FOUR + "press C3 ");
        CHECKS.dueFault(FOUR + "press C0 C1");
        CHECKS.dueFault(FOUR + "via C0 C3");
    }

    private static int sameLetters(String word, String other) {
        int same = 0;
        while (same < Math.min(word.length(), other.length()) && word.charAt(same) == other.charAt(same)) {
            same++;
        }
        return same;
    }

    /** Each beginning of each word with each character behind it that makes it none. */
    private static void firstWords() {
        CHECKS.says("for a LINE whose first word is none of the seven the first character by which it is none");
        for (String start : new String[] {"", A + CORE + "copper B 1 1\n"}) {
            for (String word : WORDS) {
                for (int end = 0; end < word.length(); end++) {
                    for (char character : " \naceimoprsvxCP0~".toCharArray()) {
                        String line = word.substring(0, end) + character;
                        int same = 0;
                        for (String other : WORDS) {
                            same = Math.max(same, sameLetters(line, other));
                        }
                        if (same < line.length()) {
                            CHECKS.dueFaultAt(start + line, start.length() + same);
                            CHECKS.dueFaultAt(start + line + "oppper A 1 1\n", start.length() + same);
                        }
                    }
                }
            }
        }
        CHECKS.dueFault("@\n");
        CHECKS.dueFault("@ copper A 1 1\n");
        CHECKS.dueFault("@Copper A 1 1\n");
        CHECKS.dueFault("copper@s A 1 1\n");
        CHECKS.dueFault("copper@\nA");
        CHECKS.dueFault("copper@A 1 1\n");
        CHECKS.dueFault("prepre@ss A B\n");
        CHECKS.dueFault("pre@\n");
        CHECKS.dueFault("pre@");
        CHECKS.dueFault(Texts.LEAST + "via@s A B\n");
        CHECKS.dueFault(Texts.LEAST + "press@ed A B\n");
        CHECKS.dueFault(A + "cop@y A 1 1\n");
        CHECKS.dueFault(A + CORE + "mas@");
    }

    private static void lastLetters() {
        CHECKS.says("asked when a word has its last letter");
        CHECKS.dueFault(A + "coppe@");
        CHECKS.dueFault(A + "@copper");
        CHECKS.dueFault(A + "@copperx");
        CHECKS.dueFault(A + "@copper\n");
        CHECKS.dueFault("cor@");
        CHECKS.dueFault("@core");
        CHECKS.dueFault("@corex");
        CHECKS.dueFault("prepre@");
        CHECKS.dueFault("@prepreg");
        CHECKS.dueFault("spar@");
        CHECKS.dueFault("@spare");
        CHECKS.dueFault(A + CORE + "mas@");
        CHECKS.dueFault(A + CORE + "@mask");
        CHECKS.dueFault(A + CORE + "@mask?");
        CHECKS.dueFault(A + CORE + "pres@");
        CHECKS.dueFault(A + CORE + "@press");
        CHECKS.dueFault(A + CORE + "@press~");
        CHECKS.dueFault("vi@");
        CHECKS.dueFault("@via");
        CHECKS.dueFault("@vias");
        CHECKS.dueFault(FOUR + "via C0 C3\npres@");
        CHECKS.dueFault(FOUR + "via C0 C3\n@press");
        CHECKS.dueFault(FOUR + "via C0 C3\n@pressx");
    }

    private static void endedNames() {
        CHECKS.says("for a copper layer's NAME that is there already, the first character of it");
        for (String behind : new String[] {" 1 1\n", " ", "", "\n", "?", ".", "-A 1 1\n"}) {
            CHECKS.dueFault(A + CORE + "copper @A" + behind);
        }
        CHECKS.dueFault(A + CORE + "copper AA@");
        CHECKS.dueFault(A + CORE + "copper AA@?");
        CHECKS.dueFault(A + CORE + "copper C@");
        CHECKS.dueFault("copper AA 1 1\n" + CORE + "copper A@");
        CHECKS.says("for a NAME of press or via that no copper layer has, the first character of it");
        for (String word : new String[] {"press", "via"}) {
            for (String behind : new String[] {" C3\n", " ", "", "\n", "?", "-C0"}) {
                CHECKS.dueFault(FOUR + word + " @C" + behind);
                CHECKS.dueFault(FOUR + word + " @k" + behind);
                CHECKS.dueFault(FOUR + word + " @c0" + behind);
                CHECKS.dueFault(FOUR + word + " @C4" + behind);
                CHECKS.dueFault(FOUR + word + " @C00" + behind);
                CHECKS.dueFault(FOUR + word + " C0 @C" + behind);
                CHECKS.dueFault(FOUR + word + " C0 @k" + behind);
                CHECKS.dueFault(FOUR + word + " C0 @C4" + behind);
            }
            CHECKS.dueFault(Texts.LEAST + MASK + word + " @M B\n");
        }
    }

    private static void endedNumbers() {
        CHECKS.says("for a SPREAD out of its bounds, the first character of it");
        for (String behind : new String[] {"\n", "", " ", "x", "-", "~\n"}) {
            CHECKS.dueFault("copper A 1 @50.1" + behind);
            CHECKS.dueFault("copper A 1 @51" + behind);
            CHECKS.dueFault("copper A 1 @99" + behind);
            CHECKS.dueFault("copper A 1 @99.9" + behind);
            CHECKS.dueFault(MASK + "copper A 1 @50.9" + behind);
            CHECKS.dueFault(A + "prepreg P 0 @60" + behind);
            CHECKS.dueFault("mask M 9999.999 @50.1" + behind);
        }
        CHECKS.dueFault("copper A 1 @50.1.");
        CHECKS.dueFault("copper A 1 50@");
        CHECKS.dueFault("copper A 1 50.0@");
        CHECKS.dueFault("copper A 1 50.0@x");
        CHECKS.says("a number has ended");
        CHECKS.dueFault("copper A 1 51.@");
        CHECKS.dueFault("copper A 1 51.@\n");
        CHECKS.dueFault("copper A 1 51.@x");
        CHECKS.dueFault("copper A 1 9@");
    }

    private static void tooMany() {
        CHECKS.says("behind a letter or digit too many");
        String eight = "copper Abcdefg8 1 1\n" + CORE;
        CHECKS.dueFault(eight + "copper Abcdefg8@9 1 1\n");
        CHECKS.dueFault(eight + "copper Abcdefg8@x");
        CHECKS.dueFault(FOUR + "press C2345678@9 C1\n");
        CHECKS.dueFault(FOUR + "press C0 C2345678@9\n");
        CHECKS.dueFault(FOUR + "via C2345678@x");
        CHECKS.dueFault("copper A 1 99@9\n");
        CHECKS.dueFault("copper A 1 51@0");
        CHECKS.dueFault("copper A 1 50.1@1\n");
        CHECKS.dueFault("copper A 1 99.9@9");
        CHECKS.dueFault("copper A 9999@9");
    }

    private static void layersThatCantStand() {
        CHECKS.says("behind a mask that is not the first layer");
        for (String kind : new String[] {"copper", "core", "prepreg", "mask", "spare"}) {
            CHECKS.dueFault(A + MASK + "@" + kind);
            CHECKS.dueFault(MASK + A + MASK + "@" + kind);
            CHECKS.dueFault(Texts.LEAST + MASK + "@" + kind + " N 1 1\n");
            CHECKS.says("behind PRESSINGS or VIAS");
            CHECKS.dueFault(Texts.LEAST + "press A B\n@" + kind);
            CHECKS.dueFault(Texts.LEAST + "via A B\n@" + kind);
            CHECKS.dueFault(FOUR + "press C0 C1\n@" + kind + " N 1 1\n");
            CHECKS.dueFault(FOUR + "press C0 C1\nvia C0 C1\n@" + kind + " N 1 1\n");
            CHECKS.says("first, or behind a mask, another one than a mask first of all or a copper one");
            boolean isFirst = kind.equals("copper") || kind.equals("mask");
            CHECKS.dueFault(isFirst ? kind + "@" : "@" + kind);
            CHECKS.dueFault(isFirst ? kind + " N 1 1\n@" : "@" + kind + " N 1 1\n");
            CHECKS.dueFault(kind.equals("copper") ? MASK + kind + "@" : MASK + "@" + kind);
            CHECKS.says("behind a mask that is not the first layer");
        }
        CHECKS.says("a copper one without a core or prepreg since the last one");
        CHECKS.dueFault(A + "@copper B 1 1\n");
        CHECKS.dueFault(MASK + A + "@copper B 1 1\n");
        CHECKS.dueFault(A + SPARE + "@copper B 1 1\n");
        CHECKS.dueFault(Texts.LEAST + "@copper C 1 1\n");
        CHECKS.dueFault(Texts.LEAST + SPARE + SPARE + "@copper C 1 1\n");
        CHECKS.dueFault(A + CORE + SPARE + "copper@");
        CHECKS.dueFault(A + SPARE + "prepreg P 1 1\ncopper@");
        CHECKS.says("a mask that is neither first nor right behind a copper one");
        CHECKS.dueFault(A + CORE + "@mask M 1 1\n");
        CHECKS.dueFault(A + "prepreg P 1 1\n@mask M 1 1\n");
        CHECKS.dueFault(A + SPARE + "@mask M 1 1\n");
        CHECKS.dueFault(Texts.LEAST + CORE + "@mask M 1 1\n");
        CHECKS.dueFault(Texts.LEAST + SPARE + "@mask M 1 1\n");
        CHECKS.dueFault(A + "mask@");
        CHECKS.dueLayers(Texts.LEAST + MASK, 4);
    }

    private static void stacksThatAreNone() {
        CHECKS.says("for a stack of less than 2 copper ones the first character of the LINE that follows all layers"
                + " (or the text's length)");
        for (String layers : new String[] {"", MASK, A, MASK + A, A + MASK, MASK + A + MASK}) {
            CHECKS.dueFault(layers + "@");
            CHECKS.dueFault(layers + "@press");
            CHECKS.dueFault(layers + "@press A B\n");
            CHECKS.dueFault(layers + "@via");
            CHECKS.dueFault(layers + "@via A A\n");
        }
        CHECKS.says("or whose last layer is neither copper nor a mask");
        for (String last : new String[] {CORE, "prepreg P 1 1\n", SPARE, CORE + SPARE}) {
            CHECKS.dueFault(Texts.LEAST + last + "@");
            CHECKS.dueFault(Texts.LEAST + last + "@press");
            CHECKS.dueFault(Texts.LEAST + last + "@press A B\n");
            CHECKS.dueFault(Texts.LEAST + last + "@via A B\n");
            CHECKS.dueFault(Texts.LEAST + last + "vi@");
            CHECKS.dueFault(A + last + "@press A B\n");
            CHECKS.dueFault(A + last + "@");
        }
    }

    private static void secondLayers() {
        CHECKS.says("for a press or a via whose second layer does not lie behind the first one, that second NAME");
        for (String word : new String[] {"press", "via"}) {
            for (String behind : new String[] {"\n", "", " ", "?"}) {
                CHECKS.dueFault(FOUR + word + " C1 @C1" + behind);
                CHECKS.dueFault(FOUR + word + " C1 @C0" + behind);
                CHECKS.dueFault(FOUR + word + " C3 @C0" + behind);
                CHECKS.dueFault(FOUR + word + " C3 @C2" + behind);
                CHECKS.dueFault(FOUR + word + " C0 @C0" + behind);
            }
        }
        CHECKS.dueFault(FOUR + "press C2 C3@");
        CHECKS.dueFault(FOUR + "via C0 C3@");
    }

    private static void pressings() {
        CHECKS.says("for a PRESSING that meets another one otherwise the first character of its LINE");
        for (String behind : new String[] {"\n", "", " ", "?"}) {
            CHECKS.dueFault(FOUR + "press C0 C1\n@press C1 C2" + behind);
            CHECKS.dueFault(FOUR + "press C1 C2\n@press C0 C1" + behind);
            CHECKS.dueFault(FOUR + "press C0 C2\n@press C1 C3" + behind);
            CHECKS.dueFault(FOUR + "press C1 C3\n@press C0 C2" + behind);
            CHECKS.dueFault(FOUR + "press C0 C3\npress C0 C2\n@press C2 C3" + behind);
        }
        CHECKS.dueFault(FOUR + "press C0 C1\npress C1 @C");
        CHECKS.dueLayers(FOUR + "press C0 C1\npress C2 C3\n", 7);
        CHECKS.dueLayers(FOUR + "press C0 C1\npress C0 C2\n", 7);
        CHECKS.dueLayers(FOUR + "press C1 C3\npress C2 C3\n", 7);
        CHECKS.dueLayers(FOUR + "press C1 C2\npress C0 C3\n", 7);
        CHECKS.says("or is told already");
        for (String behind : new String[] {"\n", "", " ", "?"}) {
            CHECKS.dueFault(FOUR + "press C0 C1\n@press C0 C1" + behind);
            CHECKS.dueFault(FOUR + "press C0 C3\n@press C0 C3" + behind);
            CHECKS.dueFault(FOUR + "press C0 C3\npress C0 C1\n@press C0 C3" + behind);
            CHECKS.dueFault(FOUR + "press C2 C3\npress C0 C1\n@press C2 C3" + behind);
        }
        CHECKS.says("or a press behind a via");
        CHECKS.dueFault(FOUR + "via C0 C3\n@press C0 C1\n");
        CHECKS.dueFault(FOUR + "press C0 C1\nvia C0 C1\n@press C2 C3\n");
        CHECKS.dueFault(FOUR + "press C0 C1\nvia C0 C1\n@press C9");
    }

    private static void vias() {
        String one = FOUR + "press C1 C2\n";
        CHECKS.says("or a via that is none");
        for (String behind : new String[] {"\n", "", " ", "?"}) {
            CHECKS.dueFault(one + "@via C0 C1" + behind);
            CHECKS.dueFault(one + "@via C0 C2" + behind);
            CHECKS.dueFault(one + "@via C1 C3" + behind);
            CHECKS.dueFault(FOUR + "@via C1 C2" + behind);
        }
        CHECKS.dueLayers(one + "via C1 C2\nvia C0 C3\n", 7);
        CHECKS.says("or told already");
        for (String behind : new String[] {"\n", "", " ", "?"}) {
            CHECKS.dueFault(one + "via C1 C2\n@via C1 C2" + behind);
            CHECKS.dueFault(one + "via C0 C3\nvia C1 C2\n@via C0 C3" + behind);
        }
    }
}
