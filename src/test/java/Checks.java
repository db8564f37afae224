/** What the tests share: feeding texts, asking, counting wrong answers, ending with exit code 1. */
final class Checks {
    /** A call of the face, for a test that looks at what it throws. */
    interface Call {
        long answer();
    }

    private static final String INDEX = "IndexOutOfBoundsException";
    private static final String STATE = "IllegalStateException";
    private static final String ARGUMENT = "IllegalArgumentException";

    private int wrong = 0;

    static void feed(LayerStacks x, String text) {
        for (int i = 0; i < text.length(); i++) {
            if (!x.unit(text.charAt(i))) {
                throw new AssertionError("character " + i + " refused");
            }
        }
    }

    static LayerStacks stackOf(String text) {
        LayerStacks x = new LayerStacks();
        feed(x, text);
        int layers = x.read();
        if (layers < 0) {
            throw new AssertionError("fault at " + (-1 - layers) + " of\n" + text);
        }
        return x;
    }

    static String written(LayerStacks x) {
        StringBuilder text = new StringBuilder();
        for (int i = 0; x.write(i) != LayerStacks.NONE; i++) {
            text.append((char) x.write(i));
        }
        return text.toString();
    }

    /** "answer 5", or the simple name of what was thrown. */
    static String outcome(Call call) {
        try {
            return "answer " + call.answer();
        } catch (RuntimeException e) {
            return e.getClass().getSimpleName();
        }
    }

    void due(String what, long got, long want) {
        due(what, Long.toString(got), Long.toString(want));
    }

    void due(String what, boolean got, boolean want) {
        due(what, Boolean.toString(got), Boolean.toString(want));
    }

    void due(String what, String got, String want) {
        if (!got.equals(want)) {
            wrong++;
            System.out.println(what + ": got " + got + ", due is " + want);
        }
    }

    void dueIndex(String what, Call call) {
        due(what, outcome(call), INDEX);
    }

    void dueState(String what, Call call) {
        due(what, outcome(call), STATE);
    }

    void dueArgument(String what, Call call) {
        due(what, outcome(call), ARGUMENT);
    }

    /** The fault's place of a text on a new object, which may stand in the text as a mark, '@'. */
    void dueFault(String marked) {
        int place = marked.indexOf('@');
        String text = place < 0 ? marked : marked.substring(0, place) + marked.substring(place + 1);
        LayerStacks x = new LayerStacks();
        feed(x, text);
        int got = x.read();
        due("fault in <" + marked + ">", got, -1 - (place < 0 ? text.length() : place));
        due("text stays after <" + marked + ">", x.read(), got);
        due("no stack after <" + marked + ">", outcome(() -> x.kind(0)), INDEX);
    }

    void dueLayers(String text, int layers) {
        LayerStacks x = new LayerStacks();
        feed(x, text);
        due("layers of <" + text + ">", x.read(), layers);
    }

    void end() {
        System.out.println(wrong == 0 ? "all answers are as due" : wrong + " answers are not as due");
        if (wrong != 0) {
            System.exit(1);
        }
    }
}
