import java.math.BigInteger;
import java.util.ArrayList;
import java.util.Comparator;
import java.util.List;

/** Promises 4 to 9, 14 and 15: what a stack answers. */
public final class AskTest {
    private static final Checks CHECKS = new Checks();
    private static final int[] WRONG_LAYERS = {Integer.MIN_VALUE, -1, 14, 80, Integer.MAX_VALUE};
    private static final int[] WRONG_COPPERS = {Integer.MIN_VALUE, -1, 6, 32, Integer.MAX_VALUE};
    private static final int[] WRONG_BITS = {Integer.MIN_VALUE, -1, 2, Integer.MAX_VALUE};
    private static final long MOST = 1_000_000_000_000_000L;

    public static void main(String[] args) {
        thick();
        thickInLowestTerms();
        thickOfNone();
        kind();
        via();
        pressed();
        pressedInOrder();
        pressedOfNone();
        skew();
        skewOfShares();
        skewByNumber();
        copper();
        copperRefused();
        role();
        sum();
        sumOfShares();
        sumOfNone();
        CHECKS.end();
    }

    private static String thick(LayerStacks x, int layer, int end) {
        return x.thick(layer, end, 0) + "/" + x.thick(layer, end, 1);
    }

    private static void thick(LayerStacks x, int layer, String low, String high) {
        CHECKS.due("low end of " + layer, thick(x, layer, 0), low);
        CHECKS.due("high end of " + layer, thick(x, layer, 1), high);
    }

    private static void thick() {
        CHECKS.says("A layer's LOW (end 0) or HIGH (1) end as a fraction in lowest terms");
        LayerStacks x = Checks.stackOf(Texts.SIX);
        thick(x, 0, "18000/1", "22000/1");
        thick(x, 1, "15750/1", "19250/1");
        thick(x, 2, "87500/1", "112500/1");
        thick(x, 4, "800/1", "800/1");
        thick(x, 5, "33250/1", "36750/1");
        thick(x, 13, "18000/1", "22000/1");
        LayerStacks y = Checks.stackOf("copper A 0.001 0.1\ncore C 9999.999 50\ncopper B 0 33.3\nmask M 9999.999 0\n");
        thick(y, 0, "999/1000", "1001/1000");
        thick(y, 1, "9999999/2", "29999997/2");
        thick(y, 2, "0/1", "0/1");
        thick(y, 3, "9999999/1", "9999999/1");
        LayerStacks z = Checks.stackOf("copper A 0.05 1.5\ncore C 0.5 12.5\ncopper B 7.08 0.4\n");
        thick(z, 0, "197/4", "203/4");
        thick(z, 1, "875/2", "1125/2");
        thick(z, 2, "176292/25", "177708/25");
        CHECKS.says("of copper ones times their SHARE: the sum's, not a layer's");
        z.copper(0, 1, 2);
        thick(z, 0, "197/4", "203/4");
    }

    private static String lowest(long above, long below) {
        long common = BigInteger.valueOf(above).gcd(BigInteger.valueOf(below)).longValueExact();
        return above / common + "/" + below / common;
    }

    /** Each SPREAD there is, with thicknesses that have all kinds of divisors of 1000, or none. */
    private static void thickInLowestTerms() {
        CHECKS.says("a fraction in lowest terms");
        String[] told = {"0", "0.001", "0.002", "0.003", "0.005", "0.008", "0.025", "0.125", "1", "1.024",
            "9999.998", "9999.999"};
        int[] thicknesses = {0, 1, 2, 3, 5, 8, 25, 125, 1000, 1024, 9_999_998, 9_999_999};
        for (int spread = 0; spread <= 500; spread++) {
            String tens = spread / 10 + "." + spread % 10;
            for (int i = 0; i < told.length; i++) {
                LayerStacks x = Checks.stackOf(Texts.between("core C " + told[i] + " " + tens));
                String want = lowest((long) thicknesses[i] * (1000 - spread), 1000);
                CHECKS.due("low end of " + told[i] + " " + tens, thick(x, 1, 0), want);
                String wantHigh = lowest((long) thicknesses[i] * (1000 + spread), 1000);
                CHECKS.due("high end of " + told[i] + " " + tens, thick(x, 1, 1), wantHigh);
            }
        }
    }

    private static void thickOfNone() {
        LayerStacks x = Checks.stackOf(Texts.SIX);
        CHECKS.says("IndexOutOfBoundsException, when there is no such layer, end or part");
        for (int layer : WRONG_LAYERS) {
            CHECKS.dueIndex("layer " + layer, () -> x.thick(layer, 0, 0));
        }
        for (int wrong : WRONG_BITS) {
            CHECKS.dueIndex("end " + wrong, () -> x.thick(0, wrong, 0));
            CHECKS.dueIndex("part " + wrong, () -> x.thick(0, 0, wrong));
            CHECKS.dueIndex("end " + wrong + " of a spare one", () -> x.thick(6, wrong, 0));
            CHECKS.dueIndex("part " + wrong + " of a spare one", () -> x.thick(6, 0, wrong));
        }
        CHECKS.says("IllegalStateException, when it is spare");
        for (int end = 0; end < 2; end++) {
            for (int part = 0; part < 2; part++) {
                int asked = end;
                int askedPart = part;
                CHECKS.dueState("end " + end + ", part " + part, () -> x.thick(6, asked, askedPart));
            }
        }
        LayerStacks few = Checks.stackOf(Texts.FEW);
        CHECKS.dueUnchanged("thick of a spare one", few, () -> few.thick(3, 0, 0), "IllegalStateException");
    }

    private static void kind() {
        CHECKS.says("A layer's KIND.");
        LayerStacks x = Checks.stackOf(Texts.SIX);
        int[] kinds = {3, 0, 2, 0, 1, 0, 4, 2, 0, 1, 0, 2, 0, 3};
        for (int layer = 0; layer < kinds.length; layer++) {
            CHECKS.due("kind of " + layer, x.kind(layer), kinds[layer]);
        }
        CHECKS.says("IndexOutOfBoundsException, when there is none such");
        for (int layer : WRONG_LAYERS) {
            CHECKS.dueIndex("kind of " + layer, () -> x.kind(layer));
        }
    }

    private static void via() {
        CHECKS.says("Whether there is a VIA between two copper layers, either way round");
        LayerStacks x = Checks.stackOf(Texts.SIX);
        for (int from = 0; from < 6; from++) {
            for (int to = 0; to < 6; to++) {
                int least = Math.min(from, to);
                int most = Math.max(from, to);
                boolean want = least == 1 && most == 4 || least == 0 && most == 5 || least == 3 && most == 4;
                CHECKS.due("via " + from + " " + to, x.via(from, to), want);
            }
        }
        LayerStacks none = Checks.stackOf(Texts.LEAST + "press A B\n");
        CHECKS.due("a pressing that is no via", none.via(0, 1), false);
        CHECKS.says("IndexOutOfBoundsException, when there are no such ones");
        for (int wrong : WRONG_COPPERS) {
            CHECKS.dueIndex("via from " + wrong, () -> x.via(wrong, 0) ? 1 : 0);
            CHECKS.dueIndex("via from the last to " + wrong, () -> x.via(5, wrong) ? 1 : 0);
            CHECKS.dueIndex("via of " + wrong, () -> x.via(wrong, wrong) ? 1 : 0);
        }
    }

    private static void pressed(String text, String want) {
        LayerStacks x = Checks.stackOf(text);
        StringBuilder got = new StringBuilder();
        int count = want.split(" ").length;
        for (int k = 0; k < count; k++) {
            got.append(k == 0 ? "" : " ").append(x.pressed(k, 0)).append('-').append(x.pressed(k, 1));
            got.append(':').append(x.pressed(k, 2));
        }
        CHECKS.due("pressings", got.toString(), want);
        CHECKS.dueIndex("no more pressings", () -> x.pressed(count, 0));
    }

    private static void pressed() {
        CHECKS.says("its first copper layer (what 0), its last one (1),"
                + " how many others lie in it and in no other one that lies in it (2)");
        pressed(Texts.SIX, "1-2:0 3-4:0 1-4:2 0-5:1");
        pressed(Texts.LEAST, "0-1:0");
        pressed(Texts.LEAST + "press A B\n", "0-1:0");
        pressed(Texts.coppers(8)
                + "press C0 C7\npress C6 C7\npress C0 C3\npress C4 C7\npress C2 C3\npress C0 C1\npress C4 C5\n",
                "0-1:0 2-3:0 4-5:0 6-7:0 0-3:2 4-7:2 0-7:2");
        pressed(Texts.coppers(5) + "press C0 C3\npress C0 C2\npress C0 C1\n", "0-1:0 0-2:1 0-3:1 0-4:1");
        pressed(Texts.coppers(5) + "press C3 C4\npress C2 C4\npress C1 C4\n", "3-4:0 2-4:1 1-4:1 0-4:1");
        pressed(Texts.coppers(7) + "press C4 C6\npress C0 C2\npress C1 C2\n", "1-2:0 0-2:1 4-6:0 0-6:2");
        pressed(Texts.coppers(8) + "press C6 C7\npress C4 C5\npress C2 C3\npress C0 C1\n",
                "0-1:0 2-3:0 4-5:0 6-7:0 0-7:4");
    }

    private record Span(int first, int last) {
        int joins() {
            return last - first + 1;
        }

        boolean has(Span other) {
            return first <= other.first && other.last <= last && !equals(other);
        }
    }

    /** All rows of three presses of five copper layers that are no fault. */
    private static void pressedInOrder() {
        CHECKS.says("They are in order by how many copper layers they join, then by the first one.");
        List<Span> all = new ArrayList<>();
        for (int last = 1; last < 5; last++) {
            for (int first = 0; first < last; first++) {
                all.add(new Span(first, last));
            }
        }
        int stacks = 0;
        for (Span one : all) {
            for (Span other : all) {
                for (Span third : all) {
                    stacks += pressedInOrder(new ArrayList<>(List.of(one, other, third))) ? 1 : 0;
                }
            }
        }
        CHECKS.due("rows that are stacks", stacks > 100, true);
    }

    private static boolean pressedInOrder(List<Span> told) {
        StringBuilder text = new StringBuilder(Texts.coppers(5));
        for (Span span : told) {
            text.append("press C").append(span.first).append(" C").append(span.last).append('\n');
        }
        LayerStacks x = new LayerStacks();
        if (Checks.read(x, text.toString()) < 0) {
            return false;
        }
        Span whole = new Span(0, 4);
        if (!told.contains(whole)) {
            told.add(whole);
        }
        told.sort(Comparator.comparingInt(Span::joins).thenComparingInt(Span::first));
        for (int k = 0; k < told.size(); k++) {
            Span span = told.get(k);
            int inside = 0;
            for (Span inner : told) {
                boolean isBetween = told.stream().anyMatch(other -> span.has(other) && other.has(inner));
                inside += span.has(inner) && !isBetween ? 1 : 0;
            }
            CHECKS.due("first of " + k + " in " + told, x.pressed(k, 0), span.first);
            CHECKS.due("last of " + k + " in " + told, x.pressed(k, 1), span.last);
            CHECKS.due("others in " + k + " in " + told, x.pressed(k, 2), inside);
        }
        CHECKS.dueIndex("behind the last of " + told, () -> x.pressed(told.size(), 0));
        return true;
    }

    private static void pressedOfNone() {
        CHECKS.says("IndexOutOfBoundsException, when there is none such, or what");
        LayerStacks x = Checks.stackOf(Texts.SIX);
        for (int what = 0; what < 3; what++) {
            int asked = what;
            for (int k : new int[] {Integer.MIN_VALUE, -1, 4, 20, 21, Integer.MAX_VALUE}) {
                CHECKS.dueIndex("pressing " + k, () -> x.pressed(k, asked));
            }
        }
        for (int what : new int[] {Integer.MIN_VALUE, -1, 3, Integer.MAX_VALUE}) {
            CHECKS.dueIndex("what " + what, () -> x.pressed(0, what));
            CHECKS.dueIndex("what " + what + " of the last one", () -> x.pressed(3, what));
            CHECKS.dueIndex("what " + what + " of none", () -> x.pressed(4, what));
        }
    }

    private static String skews(LayerStacks x) {
        StringBuilder got = new StringBuilder();
        for (int k = 0; x.skew(k) != LayerStacks.NONE; k++) {
            got.append(k == 0 ? "" : " ").append(x.skew(k));
        }
        return got.toString();
    }

    private static void skews(String text, String want) {
        CHECKS.due("skew of <" + text + ">", skews(Checks.stackOf(text)), want);
    }

    private static void skew() {
        CHECKS.says("SKEW are layers which differ from that one as far from the other end");
        skews(Texts.LEAST, "");
        skews("mask M 1 1\ncopper A 1 1\ncore C 1 1\ncopper B 1 1\n", "0 1 2 3");
        skews("copper A 1 1\nprepreg P 1 1\ncopper B 9 9\ncore C 1 1\ncopper D 1 1\n", "1 3");
        CHECKS.says("in kind");
        skews("copper A 1 1\ncore C 1 1\nprepreg C 1 1\ncopper B 1 1\n", "1 2");
        skews("copper A 1 1\nspare S\ncore S 0 0\ncopper B 1 1\n", "1 2");
        CHECKS.says("name (but of copper)");
        skews("mask M 1 1\ncopper A 1 1\ncore C 1 1\ncopper B 1 1\nmask N 1 1\n", "0 4");
        skews("copper A 1 1\ncore C 1 1\ncore c 1 1\ncopper B 1 1\n", "1 2");
        skews("copper A 1 1\nprepreg Abcdefg8 1 1\nprepreg Abcdefg9 1 1\ncopper B 1 1\n", "1 2");
        skews("copper A 1 1\nprepreg Abcdefg8 1 1\nprepreg bbcdefg8 1 1\ncopper B 1 1\n", "1 2");
        skews("copper A 1 1\nspare S\ncore C 1 1\nspare S\ncopper B 1 1\n", "");
        skews("copper A 1 1\nspare S\ncore C 1 1\nspare T\ncopper B 1 1\n", "1 3");
        skews("copper Abcdefg8 1 1\ncore C 1 1\ncopper 0 1 1\n", "");
        CHECKS.says("thickness");
        skews("copper A 1 1\ncore C 1 1\ncopper B 1.001 1\n", "0 2");
        skews("copper A 1 1\ncore C 9999.999 1\ncore C 9999.998 1\ncopper B 1 1\n", "1 2");
        skews("copper A 1.0 01\ncore C 1 1\ncopper B 0001 1.0\n", "");
        CHECKS.says("spread");
        skews("copper A 1 1\ncore C 1 1\ncopper B 1 1.1\n", "0 2");
        skews("copper A 0 1\ncore C 0 0\ncore C 0 50\ncopper B 0 1\n", "1 2");
    }

    private static void skewOfShares() {
        CHECKS.says("or share");
        LayerStacks x = Checks.stackOf(Texts.SIX);
        CHECKS.due("at first", skews(x), "6 7");
        x.copper(5, 1, 2);
        CHECKS.due("one share", skews(x), "1 6 7 12");
        x.copper(0, 501, 1000);
        CHECKS.due("two shares", skews(x), "1 6 7 12");
        x.copper(0, 2, 4);
        CHECKS.due("equal shares", skews(x), "6 7");
        LayerStacks odd = Checks.stackOf(Texts.ofKinds("ckckc"));
        odd.copper(1, 0, 1);
        CHECKS.due("the middle one is as far from both ends", skews(odd), "");
    }

    private static void skewByNumber() {
        CHECKS.says("NONE, when there are not so many (or k is below 0)");
        LayerStacks x = Checks.stackOf(Texts.SIX);
        CHECKS.due("skew 0", x.skew(0), 6);
        CHECKS.due("skew 1", x.skew(1), 7);
        for (int k : new int[] {2, 3, 14, 80, Integer.MAX_VALUE, -1, -2, Integer.MIN_VALUE}) {
            CHECKS.due("skew " + k, x.skew(k), LayerStacks.NONE);
            CHECKS.due("skew " + k + " without a stack", new LayerStacks().skew(k), LayerStacks.NONE);
        }
        CHECKS.due("skew 0 of none", Checks.stackOf(Texts.LEAST).skew(0), LayerStacks.NONE);
        LayerStacks all = Checks.stackOf("mask M 1 1\n" + Texts.LEAST);
        CHECKS.due("the last layer", all.skew(3), 3);
        CHECKS.due("behind it", all.skew(4), LayerStacks.NONE);
    }

    private static void copper() {
        LayerStacks x = Checks.stackOf(Texts.SIX);
        CHECKS.says("SHARE of a copper layer: thousandths, 1000 at first.");
        for (int number = 0; number < 6; number++) {
            CHECKS.due("share of " + number, x.copper(number, 1, 1), false);
        }
        CHECKS.says("area * 1000 by whole, cut down: whether it is another one now");
        CHECKS.due("share 1000 again", x.copper(0, MOST, MOST), false);
        CHECKS.due("share 999", x.copper(0, MOST - 1, MOST), true);
        CHECKS.due("share 999 again", x.copper(0, 1999, 2000), false);
        CHECKS.due("share 0", x.copper(0, 0, 1), true);
        CHECKS.due("share 0 of the most", x.copper(0, 0, MOST), false);
        CHECKS.due("share 0 again", x.copper(0, 1, 1001), false);
        CHECKS.due("share 0 just", x.copper(0, MOST / 1000 - 1, MOST), false);
        CHECKS.due("share 1", x.copper(0, MOST / 1000, MOST), true);
        CHECKS.due("share 1 again", x.copper(0, 1, 1000), false);
        CHECKS.due("share 1 just", x.copper(0, 1, 501), false);
        CHECKS.due("share 2", x.copper(0, 1, 500), true);
        CHECKS.due("share 333", x.copper(0, 1, 3), true);
        CHECKS.due("share 666", x.copper(0, 2, 3), true);
        CHECKS.due("share 500 of a whole of more than 32 bits", x.copper(0, 1L << 39, 1L << 40), true);
        CHECKS.due("share 500 again", x.copper(0, 1, 2), false);
        CHECKS.due("share 1000", x.copper(0, 1, 1), true);
        CHECKS.says("A copper layer's SHARE: no other one's");
        CHECKS.due("share 1 of the last one", x.copper(5, 1, 1000), true);
        for (int number = 0; number < 5; number++) {
            CHECKS.due("share of " + number, x.copper(number, 1, 1), false);
        }
        CHECKS.due("which stays", x.copper(5, 1, 1000), false);
    }

    private static void copperRefused() {
        CHECKS.says("IndexOutOfBoundsException, when there is no such one");
        for (int wrong : new int[] {Integer.MIN_VALUE, -1, 3, 5, 32, Integer.MAX_VALUE}) {
            LayerStacks x = Checks.stackOf(Texts.FEW);
            x.copper(1, 1, 2);
            CHECKS.dueUnchangedIndex("copper " + wrong, x, () -> x.copper(wrong, 1, 3) ? 1 : 0);
            CHECKS.dueIndex("copper " + wrong + " with a wrong whole", () -> x.copper(wrong, 1, 0) ? 1 : 0);
        }
        CHECKS.says("IllegalArgumentException, when whole is not 1 .. 1,000,000,000,000,000, or area not 0 .. whole");
        long[][] wrongs = {{0, 0}, {0, -1}, {-1, 1}, {2, 1}, {0, MOST + 1}, {MOST + 1, MOST + 1}, {-1, -1}, {-2, -1},
            {Long.MIN_VALUE, 1}, {Long.MAX_VALUE, 1}, {Long.MAX_VALUE, Long.MAX_VALUE}, {0, Long.MIN_VALUE},
            {0, Long.MAX_VALUE}, {MOST + 1, MOST}, {-1, MOST}, {Long.MIN_VALUE, Long.MIN_VALUE}};
        for (long[] wrong : wrongs) {
            LayerStacks x = Checks.stackOf(Texts.FEW);
            x.copper(1, 1, 2);
            CHECKS.dueUnchangedArgument("area " + wrong[0] + " of " + wrong[1], x,
                    () -> x.copper(1, wrong[0], wrong[1]) ? 1 : 0);
            CHECKS.due("the share stays", x.copper(1, 1, 2), false);
        }
    }

    private static void role() {
        CHECKS.says("Which copper layer a layer is, from 0 on; NONE when it is another kind.");
        LayerStacks x = Checks.stackOf(Texts.SIX);
        int[] roles = {-1, 0, -1, 1, -1, 2, -1, -1, 3, -1, 4, -1, 5, -1};
        for (int layer = 0; layer < roles.length; layer++) {
            CHECKS.due("role of " + layer, x.role(layer), roles[layer]);
        }
        CHECKS.says("IndexOutOfBoundsException, when there is no such layer");
        for (int layer : WRONG_LAYERS) {
            CHECKS.dueIndex("role of " + layer, () -> x.role(layer));
        }
    }

    private static void sum(LayerStacks x, String low, String high) {
        CHECKS.due("sum of low ends", x.sum(0, 0) + "/" + x.sum(0, 1), low);
        CHECKS.due("sum of high ends", x.sum(1, 0) + "/" + x.sum(1, 1), high);
    }

    private static void sum() {
        CHECKS.says("The sum of all LOW (end 0) or HIGH (1) ends, as thick() tells it");
        sum(Checks.stackOf(Texts.LEAST), "2970/1", "3030/1");
        sum(Checks.stackOf(Texts.SIX), "464600/1", "568600/1");
        sum(Checks.stackOf("copper A 0 50\ncore C 0 0\ncopper B 0 1\n"), "0/1", "0/1");
        sum(Checks.stackOf("mask M 9999.999 50\ncopper A 9999.999 50\ncore C 9999.999 49.9\ncopper B 9999.999 50\n"),
                "20009997999/1000", "59989994001/1000");
        sum(Checks.stackOf("copper A 0.001 50\nspare S\nprepreg C 0.001 0\ncopper B 0.001 50\n"), "2/1", "4/1");
    }

    private static void sumOfShares() {
        CHECKS.says("of copper ones times their SHARE by 1000");
        LayerStacks x = Checks.stackOf(Texts.LEAST);
        x.copper(1, 1, 3);
        sum(x, "230967/100", "235633/100");
        x.copper(0, 0, 3);
        sum(x, "131967/100", "134633/100");
        x.copper(1, 0, 3);
        sum(x, "990/1", "1010/1");
        LayerStacks y = Checks.stackOf("copper A 0.001 0.1\ncore C 0 50\ncopper B 0 33.3\n");
        y.copper(0, 7, 1000);
        sum(y, "6993/1000000", "7007/1000000");
        y.copper(0, 1, 1000);
        sum(y, "999/1000000", "1001/1000000");
        y.copper(0, 1, 1001);
        sum(y, "0/1", "0/1");
    }

    private static void sumOfNone() {
        CHECKS.says("0 by 1 without a stack");
        sum(new LayerStacks(), "0/1", "0/1");
        CHECKS.says("IndexOutOfBoundsException, when there is no such end or part");
        for (LayerStacks x : new LayerStacks[] {new LayerStacks(), Checks.stackOf(Texts.LEAST)}) {
            for (int wrong : WRONG_BITS) {
                for (int right = 0; right < 2; right++) {
                    int other = right;
                    CHECKS.dueIndex("end " + wrong, () -> x.sum(wrong, other));
                    CHECKS.dueIndex("part " + wrong, () -> x.sum(other, wrong));
                }
            }
        }
    }
}
