public final class Example {
    public static void main(String[] args) {
        LayerStacks stacks = new LayerStacks();
        feed(stacks, "mask M 20 10\n");
        feed(stacks, "copper TOP 35 5\n");
        feed(stacks, "prepreg P1 100.5 12.5\n");
        feed(stacks, "copper IN1 17.5 10\n");
        feed(stacks, "core FR4 0710.0 10\n");
        feed(stacks, "spare GLUE\n");
        feed(stacks, "copper IN2 17.5 10\n");
        feed(stacks, "prepreg P1 100.5 12.5\n");
        feed(stacks, "copper BOT 35 5\n");
        feed(stacks, "mask M 20 10\n");
        feed(stacks, "press IN1 IN2\n");
        feed(stacks, "via IN1 IN2\n");
        feed(stacks, "via TOP BOT\n");
        show(stacks.read());                          // 10: so many layers

        show(stacks.kind(4));                         // 1: a core
        show(stacks.role(6));                         // 2: IN2 is copper layer 2
        show(stacks.role(4));                         // -1: a core is none
        show(stacks.thick(2, 0, 0));                  // 175875: at least 175875 / 2 nanometres
        show(stacks.thick(2, 0, 1));                  // 2
        show(stacks.thick(2, 1, 0));                  // 226125: at most 226125 / 2
        show(stacks.thick(2, 1, 1));                  // 2
        show(stacks.via(2, 1));                       // true: IN1 to IN2, either way round
        show(stacks.via(0, 1));                       // false
        show(stacks.pressed(0, 0));                   // 1: from IN1
        show(stacks.pressed(0, 1));                   // 2: to IN2
        show(stacks.pressed(1, 2));                   // 1: the pressing of all has that one in it
        show(stacks.skew(0));                         // 4: the core, as its counterpart ..
        show(stacks.skew(1));                         // 5: .. is the spare layer
        show(stacks.skew(2));                         // -1: no more

        show(stacks.sum(1, 0));                       // 1163125: all layers are at most 1163125 nanometres
        show(stacks.sum(1, 1));                       // 1
        show(stacks.copper(3, 1, 3));                 // true: BOT's share is 333 thousandths now
        show(stacks.copper(3, 2, 6));                 // false: it was so already
        show(stacks.sum(1, 0));                       // 4554451: 4554451 / 4, as there is less copper
        show(stacks.sum(1, 1));                       // 4
        show(stacks.skew(0));                         // 1: TOP, as its share is still 1000

        show(stacks.list());                          // 0: a maker's list
        show(stacks.list());                          // 1: and another one
        show(stacks.row(1, 4, 700_000, 710_000));     // true: this maker has such cores
        show(stacks.row(1, 4, 0, 710_000));           // false: there is a row already
        show(stacks.changes(0));                      // 9: no layer has a row
        show(stacks.changes(1));                      // 8: all but the core
        show(stacks.match());                         // 1: the list with the least

        show((char) stacks.write(0));                 // m: the first character
        show(written(stacks).split("\n")[4]);         // core FR4 710 10: the line of layer 4
        show(stacks.write(1000));                     // -1: behind the last character

        show(stacks.unit('c'));                       // true: a new text begins
        show(stacks.unit(9));                         // false: a tab is no character of a text
        feed(stacks, "opper TOP 35 5\ncore FR4 710 51\n");
        show(stacks.read());                          // -30: a fault at place 29, a spread above 50
        show(stacks.kind(0));                         // 3: the stack that was is still there
        try {
            show(stacks.kind(10));
        } catch (IndexOutOfBoundsException e) {
            show("no layer 10");                      // no layer 10
        }
    }

    private static void feed(LayerStacks stacks, String text) {
        for (int i = 0; i < text.length(); i++) {
            stacks.unit(text.charAt(i));
        }
    }

    private static String written(LayerStacks stacks) {
        StringBuilder text = new StringBuilder();
        for (int character = stacks.write(0); character != LayerStacks.NONE; character = stacks.write(text.length())) {
            text.append((char) character);
        }
        return text.toString();
    }

    private static void show(Object answer) {
        System.out.println(answer);
    }
}
