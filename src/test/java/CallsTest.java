/** "An object is used for at most 512 calls after it has been made": the 512th answers as the first does. */
public final class CallsTest {
    private static final Checks CHECKS = new Checks();
    private static final int MOST_CALLS = 512;
    private static final String TEXT = "mask M 1 1\n" + Texts.FEW;
    /** The text's characters and read(). */
    private static final int CALLS_OF_TEXT = TEXT.length() + 1;

    public static void main(String[] args) {
        CHECKS.says("An object is used for at most 512 calls after it has been made");
        longestText();
        longestFault();
        lastCalls();
        allRefused();
        manyReads();
        CHECKS.end();
    }

    /** A text of 511 characters: read() is the 512th call. */
    private static void longestText() {
        StringBuilder text = new StringBuilder(Texts.ofKinds("ck".repeat(20) + "c"));
        text.append("press A U\n");
        String longest = text.toString().replaceFirst("core K 1 1", "core K12345 01.0 1");
        CHECKS.due("its length", longest.length(), MOST_CALLS - 1);
        CHECKS.dueLayers(longest, 41);
    }

    private static void longestFault() {
        String text = "copper A 1 1\n" + "core K 1 1\n".repeat(45);
        String longest = text + "a".repeat(MOST_CALLS - 1 - text.length());
        CHECKS.due("its length", longest.length(), MOST_CALLS - 1);
        CHECKS.due("fault", Checks.read(new LayerStacks(), longest), -1 - text.length());
    }

    /** An object with a stack, a list with a row, and 511 calls behind it. */
    private static LayerStacks nearlyUsed() {
        LayerStacks x = Checks.stackOf(TEXT);
        x.list();
        x.row(0, 1, 1000, 1000);
        x.copper(2, 1, 4);
        for (int call = CALLS_OF_TEXT + 3; call < MOST_CALLS - 1; call++) {
            x.skew(call);
        }
        return x;
    }

    private static void lastCalls() {
        CHECKS.due("unit", nearlyUsed().unit('~'), true);
        CHECKS.due("unit refused", nearlyUsed().unit(127), false);
        CHECKS.due("read", nearlyUsed().read(), -1);
        CHECKS.due("thick", nearlyUsed().thick(6, 1, 0), 5250);
        CHECKS.dueState("thick", () -> nearlyUsed().thick(4, 1, 0));
        CHECKS.due("kind", nearlyUsed().kind(5), 2);
        CHECKS.dueIndex("kind", () -> nearlyUsed().kind(7));
        CHECKS.due("via", nearlyUsed().via(1, 0), true);
        CHECKS.due("pressed", nearlyUsed().pressed(1, 2), 1);
        CHECKS.due("skew", nearlyUsed().skew(5), 6);
        CHECKS.due("copper", nearlyUsed().copper(2, 1, 4), false);
        CHECKS.due("list", nearlyUsed().list(), 1);
        CHECKS.due("row", nearlyUsed().row(0, 0, 0, 0), true);
        CHECKS.due("match", nearlyUsed().match(), 0);
        CHECKS.due("changes", nearlyUsed().changes(0), 5);
        CHECKS.due("role", nearlyUsed().role(6), 2);
        CHECKS.due("sum", nearlyUsed().sum(1, 0), 25245);
        CHECKS.due("write", nearlyUsed().write(TEXT.length() - 1), '\n');
    }

    /** 512 calls that are refused, or throw, on an object that still takes none of them. */
    private static void allRefused() {
        LayerStacks x = new LayerStacks();
        for (int call = 0; call < MOST_CALLS; call += 4) {
            CHECKS.due("unit", x.unit(31), false);
            CHECKS.due("read", x.read(), -1);
            CHECKS.dueState("list", () -> x.list());
            CHECKS.dueIndex("copper", () -> x.copper(0, 1, 1) ? 1 : 0);
        }
    }

    /** As many stacks as 512 calls can read. */
    private static void manyReads() {
        LayerStacks x = new LayerStacks();
        int calls = 0;
        for (int stack = 0; calls + Texts.LEAST.length() + 4 <= MOST_CALLS; stack++) {
            CHECKS.due("layers of stack " + stack, Checks.read(x, Texts.LEAST), 3);
            CHECKS.due("the share of stack " + stack, x.copper(1, 0, 1), true);
            CHECKS.due("a list of stack " + stack, x.list(), 0);
            CHECKS.due("a row of stack " + stack, x.row(0, 2, 0, 0), true);
            calls += Texts.LEAST.length() + 4;
        }
        CHECKS.due("twelve of them", calls, 12 * 41);
    }
}
