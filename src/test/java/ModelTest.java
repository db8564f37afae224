import java.math.BigInteger;
import java.util.ArrayList;
import java.util.List;
import java.util.Random;

/**
 * Random texts, whole and spoilt, and random questions: the answers are the model's. An object is
 * asked more than 512 times here, as the class does not count its calls.
 */
public final class ModelTest {
    private static final Checks CHECKS = new Checks();
    private static final Random RANDOM = new Random(20261115);
    private static final String SPOIL = "copper core prepreg mask spare press via ABCab0159.. \n\n  -~";

    public static void main(String[] args) {
        int faults = 0;
        int stacks = 0;
        for (int run = 0; run < 30000; run++) {
            String text = randomText();
            for (int spoil = RANDOM.nextInt(4) - 1; spoil > 0; spoil--) {
                text = spoilt(text);
            }
            Model model = new Model(text);
            LayerStacks x = new LayerStacks();
            Checks.feed(x, text);
            int got = x.read();
            CHECKS.due("read of <" + text + ">", got, model.fault >= 0 ? -1 - model.fault : model.layers.size());
            if (got > 0 && model.fault < 0) {
                stacks++;
                askAll(x, model);
            } else {
                faults++;
            }
        }
        System.out.println(stacks + " stacks, " + faults + " faults");
        CHECKS.due("enough of both", stacks > 3000 && faults > 3000, true);
        anyCalls();
        CHECKS.end();
    }

    private static String pick(String... all) {
        return all[RANDOM.nextInt(all.length)];
    }

    private static String randomSizes() {
        String spread = RANDOM.nextInt(80) == 0 ? pick("50.1", "99", "51.", "999", "60.12")
                : pick("0", "5", "05.0", "12.5", "50", "50.0", "0.1");
        return " " + pick("0", "1", "17.5", "35", "0100.050", "9999.999", "0.001", "1.0") + " " + spread;
    }

    private static String randomText() {
        StringBuilder text = new StringBuilder();
        int coppers = 1 + RANDOM.nextInt(7);
        if (RANDOM.nextBoolean()) {
            text.append("mask M").append(randomSizes()).append('\n');
        }
        for (int i = 0; i < coppers; i++) {
            for (int j = RANDOM.nextInt(8) == 0 ? 2 : 1; i > 0 && j > 0; j--) {
                if (RANDOM.nextInt(8) == 0) {
                    text.append("spare ").append(pick("S", "T")).append('\n');
                }
                text.append(pick("core ", "prepreg ")).append(pick("P", "Q", "C1")).append(randomSizes()).append('\n');
            }
            text.append("copper ").append(nameOf(i)).append(randomSizes()).append('\n');
        }
        if (RANDOM.nextBoolean()) {
            text.append("mask M").append(randomSizes()).append('\n');
        }
        for (int i = RANDOM.nextInt(4); i > 0; i--) {
            text.append("press ").append(randomPair(coppers)).append('\n');
        }
        for (int i = RANDOM.nextInt(3); i > 0; i--) {
            String whole = nameOf(0) + " " + nameOf(coppers - 1);
            text.append("via ").append(RANDOM.nextBoolean() ? randomPair(coppers) : whole);
            text.append('\n');
        }
        return text.toString();
    }

    private static String nameOf(int copper) {
        return new String[] {"A", "C1", "C12", "ABCDEFGH", "12345678", "a", "z9"}[copper];
    }

    private static String randomPair(int coppers) {
        int first = RANDOM.nextInt(coppers);
        int last = Math.min(coppers - 1, first + 1 + RANDOM.nextInt(3));
        return RANDOM.nextInt(20) == 0 ? nameOf(last) + " " + nameOf(first) : nameOf(first) + " " + nameOf(last);
    }

    private static String spoilt(String text) {
        int place = RANDOM.nextInt(text.length() + 1);
        String ahead = text.substring(0, place);
        String behind = text.substring(place);
        char character = SPOIL.charAt(RANDOM.nextInt(SPOIL.length()));
        switch (RANDOM.nextInt(6)) {
            case 0:
                return ahead;
            case 1:
                return ahead + character + behind;
            case 2:
                return ahead + (behind.isEmpty() ? "" : behind.substring(1));
            case 3:
                return ahead + character + (behind.isEmpty() ? "" : behind.substring(1));
            case 4:
                return moveLine(text);
            default:
                return ahead + character;
        }
    }

    private static String moveLine(String text) {
        List<String> lines = new ArrayList<>(List.of(text.split("(?<=\n)")));
        String line = lines.get(RANDOM.nextInt(lines.size()));
        if (RANDOM.nextBoolean()) {
            lines.remove(line);
        }
        lines.add(RANDOM.nextInt(lines.size() + 1), line);
        return String.join("", lines);
    }

    private static void askAll(LayerStacks x, Model model) {
        CHECKS.due("written", Checks.written(x), model.written());
        List<String> coppers = model.coppers();
        int[] shares = new int[coppers.size()];
        for (int i = 0; i < shares.length; i++) {
            shares[i] = RANDOM.nextInt(3) == 0 ? RANDOM.nextInt(1001) : 1000;
            long area = Math.min(77000, shares[i] * 77L + RANDOM.nextInt(77));
            CHECKS.due("copper", x.copper(i, area, 77000), shares[i] != 1000);
            for (int j = 0; j < shares.length; j++) {
                Model.Span span = new Model.Span(Math.min(i, j), Math.max(i, j));
                CHECKS.due("via", x.via(i, j), model.vias.contains(span));
            }
        }
        askPressings(x, model);
        askLayers(x, model, shares);
        askSkew(x, model, shares);
        askLists(x, model);
    }

    private static void askPressings(LayerStacks x, Model model) {
        for (int k = 0; k < model.pressings.size(); k++) {
            Model.Span span = model.pressings.get(k);
            CHECKS.due("pressed 0", x.pressed(k, 0), span.first());
            CHECKS.due("pressed 1", x.pressed(k, 1), span.last());
            CHECKS.due("pressed 2", x.pressed(k, 2), model.countRightInside(span));
        }
        CHECKS.dueIndex("pressed behind", () -> x.pressed(model.pressings.size(), 0));
    }

    private static String lowest(BigInteger above, long below) {
        BigInteger common = above.gcd(BigInteger.valueOf(below));
        return above.divide(common) + "/" + BigInteger.valueOf(below).divide(common);
    }

    private static void askLayers(LayerStacks x, Model model, int[] shares) {
        BigInteger[] sums = {BigInteger.ZERO, BigInteger.ZERO};
        int number = 0;
        for (int i = 0; i < model.layers.size(); i++) {
            Model.Layer layer = model.layers.get(i);
            int at = i;
            boolean isCopper = layer.kind().equals("copper");
            CHECKS.due("kind", x.kind(i), Model.kindOf(layer));
            CHECKS.due("role", x.role(i), isCopper ? number : -1);
            for (int end = 0; end < 2; end++) {
                long factor = end == 0 ? 1000 - layer.spread() : 1000 + layer.spread();
                BigInteger above = BigInteger.valueOf(layer.thickness() * factor);
                sums[end] = sums[end].add(above.multiply(BigInteger.valueOf(isCopper ? shares[number] : 1000)));
                if (layer.kind().equals("spare")) {
                    CHECKS.dueState("thick", () -> x.thick(at, 0, 0));
                } else {
                    CHECKS.due("thick", x.thick(i, end, 0) + "/" + x.thick(i, end, 1), lowest(above, 1000));
                }
            }
            number += isCopper ? 1 : 0;
        }
        for (int end = 0; end < 2; end++) {
            CHECKS.due("sum", x.sum(end, 0) + "/" + x.sum(end, 1), lowest(sums[end], 1000000));
        }
    }

    private static void askSkew(LayerStacks x, Model model, int[] shares) {
        List<String> told = new ArrayList<>();
        int number = 0;
        for (Model.Layer layer : model.layers) {
            boolean isCopper = layer.kind().equals("copper");
            told.add(layer.kind() + " " + (isCopper ? shares[number] : layer.name())
                    + " " + layer.thickness() + " " + layer.spread());
            number += isCopper ? 1 : 0;
        }
        int k = 0;
        for (int i = 0; i < told.size(); i++) {
            if (!told.get(i).equals(told.get(told.size() - 1 - i))) {
                CHECKS.due("skew", x.skew(k++), i);
            }
        }
        CHECKS.due("skew behind", x.skew(k), -1);
    }

    private static void askLists(LayerStacks x, Model model) {
        int best = -1;
        int least = Integer.MAX_VALUE;
        int lists = RANDOM.nextInt(4);
        for (int list = 0; list < lists; list++) {
            CHECKS.due("list", x.list(), list);
            int changes = 0;
            for (int i = 0; i < model.layers.size(); i++) {
                Model.Layer layer = model.layers.get(i);
                boolean isSpare = layer.kind().equals("spare");
                long low = Math.max(0, layer.thickness() + RANDOM.nextInt(5) - 3);
                long high = low + RANDOM.nextInt(3);
                boolean hasRow = RANDOM.nextInt(3) > 0;
                if (hasRow) {
                    CHECKS.due("row", x.row(list, i, low, high), !isSpare);
                    CHECKS.due("row again", x.row(list, i, 0, Long.MAX_VALUE), false);
                }
                boolean fits = hasRow && low <= layer.thickness() && layer.thickness() <= high;
                changes += isSpare || fits ? 0 : 1;
            }
            CHECKS.due("changes", x.changes(list), changes);
            if (changes < least) {
                least = changes;
                best = list;
            }
        }
        CHECKS.due("match", x.match(), best);
    }

    /** Any calls with any arguments throw but what the document names. */
    private static void anyCalls() {
        for (int run = 0; run < 3000; run++) {
            LayerStacks x = new LayerStacks();
            if (RANDOM.nextInt(4) > 0) {
                Checks.feed(x, randomText());
                x.read();
            }
            for (int call = 0; call < 60; call++) {
                int method = RANDOM.nextInt(15);
                String got = Checks.outcome(() -> anyCall(x, method));
                boolean isFine = got.matches("-?[0-9]+") || allowed(method).contains(got);
                CHECKS.due("method " + method + " threw " + got, isFine, true);
            }
        }
    }

    private static String allowed(int method) {
        String[] names = {"", "", "IndexOutOfBoundsException IllegalStateException", "IndexOutOfBoundsException",
            "IndexOutOfBoundsException", "IndexOutOfBoundsException", "",
            "IndexOutOfBoundsException IllegalArgumentException", "IllegalStateException",
            "IndexOutOfBoundsException IllegalArgumentException", "", "IndexOutOfBoundsException",
            "IndexOutOfBoundsException", "IndexOutOfBoundsException",
            "IndexOutOfBoundsException IllegalStateException"};
        return names[method];
    }

    private static int anyInt() {
        int[] far = {Integer.MIN_VALUE, Integer.MAX_VALUE, -1, 80, 3000, 127};
        return RANDOM.nextInt(5) == 0 ? far[RANDOM.nextInt(far.length)] : RANDOM.nextInt(5);
    }

    private static long anyLong() {
        long[] far = {Long.MIN_VALUE, Long.MAX_VALUE, -1, 1_000_000_000_000_000L, 1_000_000_000_000_001L};
        return RANDOM.nextInt(4) == 0 ? far[RANDOM.nextInt(far.length)] : RANDOM.nextInt(5000);
    }

    private static long anyCall(LayerStacks x, int method) {
        switch (method) {
            case 0: return x.unit(RANDOM.nextBoolean() ? anyInt() : SPOIL.charAt(RANDOM.nextInt(20))) ? 1 : 0;
            case 1: return x.read();
            case 2: return x.thick(anyInt(), anyInt(), anyInt());
            case 3: return x.kind(anyInt());
            case 4: return x.via(anyInt(), anyInt()) ? 1 : 0;
            case 5: return x.pressed(anyInt(), anyInt());
            case 6: return x.skew(anyInt());
            case 7: return x.copper(anyInt(), anyLong(), anyLong()) ? 1 : 0;
            case 8: return x.list();
            case 9: return x.row(anyInt(), anyInt(), anyLong(), anyLong()) ? 1 : 0;
            case 10: return x.match();
            case 11: return x.changes(anyInt());
            case 12: return x.role(anyInt());
            case 13: return x.sum(anyInt(), anyInt());
            default: return x.write(anyInt());
        }
    }
}
