import java.math.BigInteger;
import java.util.ArrayList;
import java.util.List;
import java.util.TreeSet;
import java.util.regex.Matcher;
import java.util.regex.Pattern;

/** A second, slow program for the document's words, written with the library's means to be another one. */
final class Model {
    record Layer(String kind, String name, int thickness, int spread) {
    }

    record Span(int first, int last) {
        int joins() {
            return last - first + 1;
        }

        boolean has(Span other) {
            return first <= other.first && other.last <= last;
        }

        boolean isApart(Span other) {
            return last < other.first || other.last < first;
        }
    }

    private static final List<String> KINDS = List.of("copper", "core", "prepreg", "mask", "spare");
    private static final List<String> WORDS = List.of("copper", "core", "prepreg", "mask", "spare", "press", "via");
    private static final String NAME = "[A-Za-z0-9]{1,8}";
    private static final Pattern LAYER =
            Pattern.compile("[a-z]+ (" + NAME + ") ([0-9]{1,4}(?:\\.[0-9]{1,3})?) ([0-9]{1,2}(?:\\.[0-9])?)\n");
    private static final Pattern SPARE = Pattern.compile("[a-z]+ (" + NAME + ")\n");
    private static final Pattern PAIR = Pattern.compile("[a-z]+ (" + NAME + ") (" + NAME + ")\n");

    final List<Layer> layers = new ArrayList<>();
    final List<Span> pressings = new ArrayList<>();
    final List<Span> vias = new ArrayList<>();
    private final List<Span> told = new ArrayList<>();
    private final String text;
    /** The fault's place, or -1. */
    final int fault;

    Model(String text) {
        this.text = text;
        this.fault = findFault();
    }

    private int findFault() {
        int start = 0;
        while (start < text.length()) {
            int feed = text.indexOf('\n', start);
            int end = feed < 0 ? text.length() : feed + 1;
            int place = findFaultOfLine(start, text.substring(start, end));
            if (place >= 0) {
                return place;
            }
            start = end;
        }
        if (!isStack()) {
            return text.length();
        }
        TreeSet<String> order = new TreeSet<>();
        told.add(new Span(0, coppers().size() - 1));
        for (Span span : told) {
            order.add(String.format("%02d %02d", span.joins(), span.first()));
        }
        for (String key : order) {
            int first = Integer.parseInt(key.substring(3));
            pressings.add(new Span(first, first + Integer.parseInt(key.substring(0, 2)) - 1));
        }
        return -1;
    }

    /** The first character behind which a line of this form can't be: its place, or the line's length. */
    private static int goesOn(Pattern form, String line) {
        for (int end = 1; end <= line.length(); end++) {
            Matcher matcher = form.matcher(line.substring(0, end));
            if (!matcher.matches() && !matcher.hitEnd()) {
                return end - 1;
            }
        }
        return line.length();
    }

    private int findFaultOfLine(int start, String line) {
        String word = null;
        int same = 0;
        for (String candidate : WORDS) {
            if (line.startsWith(candidate)) {
                word = candidate;
            }
            for (int n = 1; n <= candidate.length(); n++) {
                if (line.startsWith(candidate.substring(0, n))) {
                    same = Math.max(same, n);
                }
            }
        }
        if (word == null) {
            return start + same;
        }
        boolean isPair = word.equals("press") || word.equals("via");
        if (isPair ? !mayTell(word) : !mayStand(word)) {
            return start;
        }
        if (line.length() > word.length() && line.charAt(word.length()) != ' ') {
            return start + word.length();
        }
        Pattern form = isPair ? PAIR : word.equals("spare") ? SPARE : LAYER;
        int limit = goesOn(form, line);
        int place = isPair ? askPair(line, limit, word) : askLayer(line, limit, word);
        if (place >= 0) {
            return start + place;
        }
        return limit < line.length() || !line.endsWith("\n") ? start + limit : -1;
    }

    /** The NAMEs and numbers that have ended, ahead of the limit, as places of their first characters. */
    private static List<int[]> ended(String line, int limit) {
        List<int[]> words = new ArrayList<>();
        Matcher matcher = Pattern.compile("[A-Za-z0-9.]+").matcher(line.substring(0, limit));
        while (matcher.find()) {
            boolean goesOn = limit < line.length() && matcher.end() == limit
                    && Character.isLetterOrDigit(line.charAt(limit));
            boolean isCut = matcher.group().endsWith(".");
            if (!goesOn && !isCut) {
                words.add(new int[] {matcher.start(), matcher.end()});
            }
        }
        return words;
    }

    private static String part(String line, int[] bounds) {
        return line.substring(bounds[0], bounds[1]);
    }

    /** A letter behind a number ends the number; a letter behind a NAME, or a digit, is one too many. */
    private static List<int[]> endedOfLayer(String line, int limit) {
        List<int[]> words = ended(line, limit);
        boolean isLetter = limit < line.length() && Character.isLetter(line.charAt(limit));
        if (isLetter && line.substring(0, limit).matches("[a-z]+ [^ ]+ [^ ]+ ([0-9]+\\.)?[0-9]+")) {
            words.add(new int[] {line.lastIndexOf(' ', limit - 1) + 1, limit});
        }
        return words;
    }

    private int askLayer(String line, int limit, String kind) {
        List<int[]> words = endedOfLayer(line, limit);
        if (words.size() > 1 && kind.equals("copper") && coppers().contains(part(line, words.get(1)))) {
            return words.get(1)[0];
        }
        if (words.size() > 3 && units(part(line, words.get(3)), 1) > 500) {
            return words.get(3)[0];
        }
        if (limit == line.length() && line.endsWith("\n")) {
            boolean isSpare = kind.equals("spare");
            layers.add(new Layer(kind, part(line, words.get(1)),
                    isSpare ? 0 : units(part(line, words.get(2)), 3),
                    isSpare ? 0 : units(part(line, words.get(3)), 1)));
        }
        return -1;
    }

    private static int units(String number, int decimals) {
        return new java.math.BigDecimal(number).movePointRight(decimals).intValueExact();
    }

    private int askPair(String line, int limit, String word) {
        List<int[]> words = ended(line, limit);
        List<String> coppers = coppers();
        for (int i = 1; i < words.size() && i < 3; i++) {
            int number = coppers.indexOf(part(line, words.get(i)));
            if (number < 0 || i == 2 && number <= coppers.indexOf(part(line, words.get(1)))) {
                return words.get(i)[0];
            }
        }
        if (words.size() < 3) {
            return -1;
        }
        Span span = new Span(coppers.indexOf(part(line, words.get(1))), coppers.indexOf(part(line, words.get(2))));
        if (word.equals("via")) {
            boolean isWhole = span.joins() == coppers.size();
            if (vias.contains(span) || !isWhole && !told.contains(span)) {
                return 0;
            }
            vias.add(span);
            return -1;
        }
        for (Span other : told) {
            if (other.equals(span) || !other.isApart(span) && !other.has(span) && !span.has(other)) {
                return 0;
            }
        }
        told.add(span);
        return -1;
    }

    private boolean mayTell(String word) {
        if (!isStack()) {
            return false;
        }
        return word.equals("press") ? vias.isEmpty() && told.size() < 20 : vias.size() < 40;
    }

    private boolean isStack() {
        return coppers().size() >= 2 && initials().matches(".*[cm]");
    }

    /** One letter a layer: c copper, i core or prepreg, m mask, s spare. */
    private String initials() {
        StringBuilder letters = new StringBuilder();
        for (Layer layer : layers) {
            letters.append(initial(layer.kind()));
        }
        return letters.toString();
    }

    private static char initial(String kind) {
        return "ciims".charAt(KINDS.indexOf(kind));
    }

    private boolean mayStand(String kind) {
        String all = initials() + initial(kind);
        boolean isForm = all.matches("m?(c([is]*(i[is]*c)?)*m?)?") && !all.matches(".*[is]m");
        boolean hasRoom = all.length() <= 80 && all.replaceAll("[^c]", "").length() <= 32;
        return isForm && hasRoom && told.isEmpty() && vias.isEmpty() && !all.matches(".*c[s]*c.*");
    }

    List<String> coppers() {
        List<String> names = new ArrayList<>();
        for (Layer layer : layers) {
            if (layer.kind().equals("copper")) {
                names.add(layer.name());
            }
        }
        return names;
    }

    int countRightInside(Span outer) {
        int count = 0;
        for (Span inner : pressings) {
            boolean isRight = outer.has(inner) && !outer.equals(inner);
            for (Span between : pressings) {
                boolean isOther = !between.equals(outer) && !between.equals(inner);
                isRight = isRight && !(isOther && outer.has(between) && between.has(inner));
            }
            count += isRight ? 1 : 0;
        }
        return count;
    }

    static int kindOf(Layer layer) {
        return KINDS.indexOf(layer.kind());
    }

    String written() {
        StringBuilder out = new StringBuilder();
        for (Layer layer : layers) {
            out.append(layer.kind()).append(' ').append(layer.name());
            if (!layer.kind().equals("spare")) {
                out.append(' ').append(plain(layer.thickness(), 3)).append(' ').append(plain(layer.spread(), 1));
            }
            out.append('\n');
        }
        for (Span span : pressings.subList(0, pressings.size() - 1)) {
            out.append("press ").append(names(span));
        }
        for (Span span : vias) {
            out.append("via ").append(names(span));
        }
        return out.toString();
    }

    private String names(Span span) {
        return coppers().get(span.first()) + " " + coppers().get(span.last()) + "\n";
    }

    private static String plain(int units, int decimals) {
        String number = new java.math.BigDecimal(BigInteger.valueOf(units), decimals).toPlainString();
        return number.replaceAll("0+$", "").replaceAll("\\.$", "");
    }
}
