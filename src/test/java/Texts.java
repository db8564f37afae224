/** Texts that several tests use. */
final class Texts {
    /** Two copper layers: the least stack. */
    static final String LEAST = "copper A 1 1\ncore C 1 1\ncopper B 1 1\n";

    /** Few layers, of which no two answer the same, with a press and a via: for what must not change. */
    static final String FEW =
            "copper A 1 1\ncore K 2 2\ncopper B 3 3\nspare S\nprepreg P 4 4\ncopper C 5 5\npress A B\nvia A B\n";

    /** Fourteen layers, six of them copper, with all kinds. */
    static final String SIX =
            "mask M 20 10\n"
            + "copper L1 17.5 10\n"
            + "prepreg P 100 12.5\n"
            + "copper L2 35 5\n"
            + "core C 0.800 0\n"
            + "copper L3 0035 05\n"
            + "spare S\n"
            + "prepreg P 0100.0 12.5\n"
            + "copper L4 35 5\n"
            + "core C 0.8 0.0\n"
            + "copper L5 35 5.0\n"
            + "prepreg P 100 12.5\n"
            + "copper L6 17.5 10\n"
            + "mask M 20.000 10\n"
            + "press L2 L5\n"
            + "press L4 L5\n"
            + "press L2 L3\n"
            + "via L2 L5\n"
            + "via L1 L6\n"
            + "via L4 L5\n";

    private Texts() {
    }

    /** The least stack with this line, which has no line feed, in place of its core. */
    static String between(String line) {
        return LEAST.replace("core C 1 1", line);
    }

    /** A stack of so many copper layers, C0, C1 .., cores between. */
    static String coppers(int count) {
        StringBuilder text = new StringBuilder();
        for (int i = 0; i < count; i++) {
            if (i > 0) {
                text.append("core k 1 1\n");
            }
            text.append("copper C").append(i).append(" 1 1\n");
        }
        return text.toString();
    }

    /** A line for each letter: c copper (named A, B ..), k core, p prepreg, m mask, s spare. */
    static String ofKinds(String kinds) {
        StringBuilder text = new StringBuilder();
        char name = 'A';
        for (char kind : kinds.toCharArray()) {
            switch (kind) {
                case 'c' -> text.append("copper ").append(name++).append(" 1 1\n");
                case 'k' -> text.append("core K 1 1\n");
                case 'p' -> text.append("prepreg P 1 1\n");
                case 'm' -> text.append("mask M 1 1\n");
                default -> text.append("spare S\n");
            }
        }
        return text.toString();
    }

    /** A text of 80 layers, 32 of them copper, 20 pressings and 4 vias, so many characters long (2,700 to 3,016). */
    static String full(int length) {
        int cut = 3016 - length;
        StringBuilder text = new StringBuilder();
        for (int copper = 0; copper < 32; copper++) {
            for (int i = copper == 0 ? 0 : copper <= 17 ? 2 : 1; i > 0; i--) {
                int letters = Math.max(1, 8 - cut);
                cut -= 8 - letters;
                text.append("prepreg ").append("zZaA9900".substring(0, letters)).append(" 9999.999 49.9\n");
            }
            text.append("copper ").append(longName(copper)).append(" 9999.999 49.9\n");
        }
        for (int last = 1; last <= 20; last++) {
            text.append("press ").append(longName(0)).append(' ').append(longName(last)).append('\n');
        }
        for (int last = 1; last <= 4; last++) {
            text.append("via ").append(longName(0)).append(' ').append(longName(last)).append('\n');
        }
        return text.toString();
    }

    private static String longName(int copper) {
        return "Copper" + (10 + copper);
    }
}
