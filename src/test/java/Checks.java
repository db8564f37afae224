/** What the tests share: feeding texts, asking, counting wrong answers, ending with exit code 1. */
final class Checks {
    /** A call of the face, for a test that looks at what it throws. */
    interface Call {
        long answer();
    }

    private static final String INDEX = "IndexOutOfBoundsException";
    private static final String STATE = "IllegalStateException";
    private static final String ARGUMENT = "IllegalArgumentException";

    private String sentence = "";
    private int wrong = 0;

    static void feed(LayerStacks x, String text) {
        for (int i = 0; i < text.length(); i++) {
            if (!x.unit(text.charAt(i))) {
                throw new AssertionError("character " + i + " refused");
            }
        }
    }

    static int read(LayerStacks x, String text) {
        feed(x, text);
        return x.read();
    }

    static LayerStacks stackOf(String text) {
        LayerStacks x = new LayerStacks();
        int layers = read(x, text);
        if (layers < 0) {
            throw new AssertionError("fault at " + (-1 - layers) + " of\n" + text);
        }
        return x;
    }

    static String written(LayerStacks x) {
        StringBuilder text = new StringBuilder();
        int i = 0;
        for (int character = x.write(0); character != LayerStacks.NONE; character = x.write(i)) {
            text.append((char) character);
            i++;
        }
        return text.toString();
    }

    /** "5", or the simple name of what was thrown. */
    static String outcome(Call call) {
        try {
            return Long.toString(call.answer());
        } catch (RuntimeException e) {
            return e.getClass().getSimpleName();
        }
    }

    /** What an object answers, of six layers, three coppers and pressings, and all lists: 70 calls and the text's. */
    static String answers(LayerStacks x) {
        StringBuilder all = new StringBuilder();
        for (int i = 0; i < 6; i++) {
            int layer = i;
            tell(all, () -> x.kind(layer), () -> x.role(layer), () -> x.skew(layer));
            tell(all, () -> x.thick(layer, 0, 0), () -> x.thick(layer, 1, 0), () -> x.thick(layer, 1, 1));
        }
        for (int i = 0; i < 3; i++) {
            int k = i;
            tell(all, () -> x.pressed(k, 0), () -> x.pressed(k, 1), () -> x.pressed(k, 2));
            tell(all, () -> x.via(k, 0) ? 1 : 0, () -> x.via(k, 1) ? 1 : 0, () -> x.via(k, 2) ? 1 : 0);
        }
        for (int i = 0; i < 9; i++) {
            int list = i;
            tell(all, () -> x.changes(list));
        }
        tell(all, () -> x.match(), () -> x.sum(0, 0), () -> x.sum(0, 1), () -> x.sum(1, 0), () -> x.sum(1, 1));
        return all + (outcome(() -> x.write(0)).equals(STATE) ? "no stack" : written(x));
    }

    private static void tell(StringBuilder all, Call... calls) {
        for (Call call : calls) {
            all.append(outcome(call)).append(' ');
        }
    }

    /** The document's words for the checks that follow: told with each answer that is wrong. */
    void says(String words) {
        sentence = words;
    }

    void due(String what, long got, long want) {
        due(what, Long.toString(got), Long.toString(want));
    }

    void due(String what, boolean got, boolean want) {
        due(what, Boolean.toString(got), Boolean.toString(want));
    }

    void due(String what, String got, String want) {
        if (!got.equals(want)) {
            wrong++;
            System.out.println("\"" + sentence + "\": " + what + ": got " + got + ", due is " + want);
        }
    }

    void dueIndex(String what, Call call) {
        due(what, outcome(call), INDEX);
    }

    void dueState(String what, Call call) {
        due(what, outcome(call), STATE);
    }

    void dueArgument(String what, Call call) {
        due(what, outcome(call), ARGUMENT);
    }

    /** That a call has this outcome, and that the object answers all else as it did. */
    void dueUnchanged(String what, LayerStacks x, Call call, String want) {
        String former = answers(x);
        due(what, outcome(call), want);
        due("all answers behind " + what, answers(x), former);
    }

    void dueUnchangedIndex(String what, LayerStacks x, Call call) {
        dueUnchanged(what, x, call, INDEX);
    }

    void dueUnchangedArgument(String what, LayerStacks x, Call call) {
        dueUnchanged(what, x, call, ARGUMENT);
    }

    /** The fault's place of a text on a new object: that of a mark in it, '@', or its length. */
    void dueFault(String marked) {
        int place = marked.indexOf('@');
        String text = place < 0 ? marked : marked.substring(0, place) + marked.substring(place + 1);
        dueFaultAt(text, place < 0 ? text.length() : place);
    }

    void dueFaultAt(String text, int place) {
        LayerStacks x = new LayerStacks();
        int got = read(x, text);
        due("fault in <" + text + ">", got, -1 - place);
        due("text stays after <" + text + ">", x.read(), got);
        dueIndex("no stack after <" + text + ">", () -> x.kind(0));
    }

    void dueLayers(String text, int layers) {
        due("layers of <" + text + ">", read(new LayerStacks(), text), layers);
    }

    void end() {
        System.out.println(wrong == 0 ? "all answers are as due" : wrong + " answers are not as due");
        if (wrong != 0) {
            System.exit(1);
        }
    }
}
