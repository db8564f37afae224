import java.util.Arrays;

/**
 * Stack-ups of boards: read from texts, asked about, matched with makers' lists, written again.
 *
 * Two numberings are in use: layers count from the highest on, copper layers count among
 * themselves. Where the document speaks of a copper layer, the second one is meant.
 */
public final class LayerStacks {
    public static final int NONE = -1;

    private static final int COPPER = 0;
    private static final int CORE = 1;
    private static final int PREPREG = 2;
    private static final int MASK = 3;
    private static final int SPARE = 4;
    private static final int PRESS = 5;
    private static final int VIA = 6;
    private static final int WORDS = 7;

    private static final int MOST_CHARACTERS = 3000;
    private static final int MOST_LAYERS = 80;
    private static final int LEAST_COPPERS = 2;
    private static final int MOST_COPPERS = 32;
    private static final int MOST_PRESSES = 20;
    private static final int MOST_VIAS = 40;
    private static final int MOST_LISTS = 8;

    private static final int MOST_LETTERS = 8;
    private static final int LETTER_BITS = 7;
    private static final int LETTER_MASK = 127;
    private static final long NO_NAME = 0;

    private static final int THICKNESS_DIGITS = 4;
    private static final int THICKNESS_DECIMALS = 3;
    private static final int MOST_THICKNESS = 9_999_999;
    private static final int SPREAD_DIGITS = 2;
    private static final int SPREAD_DECIMALS = 1;
    private static final int MOST_SPREAD = 500;

    private static final int THOUSAND = 1000;
    private static final long MILLION = 1_000_000;
    private static final long MOST_WHOLE = 1_000_000_000_000_000L;

    private final TextReader reader;
    private final Writing writing;
    private final MakerLists makers;
    private Board board;
    private Board draft;

    public LayerStacks() {
        reader = new TextReader();
        writing = new Writing();
        makers = new MakerLists();
        board = new Board();
        draft = new Board();
    }

    public boolean unit(int u) {
        return reader.append(u);
    }

    public int read() {
        int fault = reader.readInto(draft);
        if (fault != NONE) {
            return -1 - fault;
        }
        Board former = board;
        board = draft;
        draft = former;
        reader.forget();
        makers.forget();
        writing.putBoard(board);
        return board.layers;
    }

    public long thick(int layer, int end, int part) throws IndexOutOfBoundsException, IllegalStateException {
        requireLayer(layer);
        requireEndAndPart(end, part);
        if (board.kinds[layer] == SPARE) {
            throw new IllegalStateException("a spare layer has no thickness");
        }
        return partOfFraction(board.endInThousandths(layer, end), THOUSAND, part);
    }

    public int kind(int layer) throws IndexOutOfBoundsException {
        requireLayer(layer);
        return board.kinds[layer];
    }

    public boolean via(int from, int to) throws IndexOutOfBoundsException {
        requireCopper(from);
        requireCopper(to);
        return board.vias.find(Math.min(from, to), Math.max(from, to)) != NONE;
    }

    public int pressed(int k, int what) throws IndexOutOfBoundsException {
        Spans pressings = board.pressings.spans;
        if (k < 0 || k >= pressings.count || what < 0 || what > 2) {
            throw new IndexOutOfBoundsException("no such pressing, or nothing such to tell of it");
        }
        if (what == 0) {
            return pressings.firsts[k];
        }
        return what == 1 ? pressings.lasts[k] : board.pressings.countRightInside(k);
    }

    public int skew(int k) {
        return board.findSkew(k);
    }

    public boolean copper(int layer, long area, long whole)
            throws IndexOutOfBoundsException, IllegalArgumentException {
        requireCopper(layer);
        if (whole < 1 || whole > MOST_WHOLE || area < 0 || area > whole) {
            throw new IllegalArgumentException("no share of a whole");
        }
        return board.changeShare(layer, (int) (area * THOUSAND / whole));
    }

    public int list() throws IllegalStateException {
        requireStack();
        return makers.open();
    }

    public boolean row(int list, int layer, long low, long high)
            throws IndexOutOfBoundsException, IllegalArgumentException {
        requireList(list);
        requireLayer(layer);
        if (low < 0 || low > high) {
            throw new IllegalArgumentException("no bounds of a thickness");
        }
        return board.kinds[layer] != SPARE && makers.addRow(list, layer, low, high);
    }

    public int match() {
        return makers.findLeastChanged(board);
    }

    public int changes(int list) throws IndexOutOfBoundsException {
        requireList(list);
        return makers.countChanges(list, board);
    }

    public int role(int layer) throws IndexOutOfBoundsException {
        requireLayer(layer);
        return board.copperNumbers[layer];
    }

    public long sum(int end, int part) throws IndexOutOfBoundsException {
        requireEndAndPart(end, part);
        return partOfFraction(board.sumInMillionths(end), MILLION, part);
    }

    public int write(int i) throws IndexOutOfBoundsException, IllegalStateException {
        if (i < 0) {
            throw new IndexOutOfBoundsException("no character ahead of the first one");
        }
        requireStack();
        return writing.characterAt(i);
    }

    private void requireStack() {
        if (board.layers == 0) {
            throw new IllegalStateException("no stack");
        }
    }

    private void requireLayer(int layer) {
        if (layer < 0 || layer >= board.layers) {
            throw new IndexOutOfBoundsException("no such layer");
        }
    }

    private void requireCopper(int number) {
        if (number < 0 || number >= board.coppers) {
            throw new IndexOutOfBoundsException("no such copper layer");
        }
    }

    private void requireList(int list) {
        if (list < 0 || list >= makers.count) {
            throw new IndexOutOfBoundsException("no such list");
        }
    }

    private static void requireEndAndPart(int end, int part) {
        if (end < 0 || end > 1 || part < 0 || part > 1) {
            throw new IndexOutOfBoundsException("no such end or part");
        }
    }

    private static long partOfFraction(long above, long below, int part) {
        long wanted = part == 0 ? above : below;
        long common = commonDivisor(above, below);
        return common > 1 ? wanted / common : wanted;
    }

    private static long commonDivisor(long one, long other) {
        long larger = one;
        long smaller = other;
        // Euclid's steps on two longs are fewer than 100.
        for (int step = 0; step < 100 && smaller != 0; step++) {
            long rest = larger % smaller;
            larger = smaller;
            smaller = rest;
        }
        return larger;
    }

    private static String spellingOf(int word) {
        switch (word) {
            case COPPER:
                return "copper";
            case CORE:
                return "core";
            case PREPREG:
                return "prepreg";
            case MASK:
                return "mask";
            case SPARE:
                return "spare";
            case PRESS:
                return "press";
            default:
                return "via";
        }
    }

    /** Pairs of copper layers, the first one ahead of the last one. */
    private static final class Spans {
        final int[] firsts;
        final int[] lasts;
        int count;

        Spans(int most) {
            int room = Math.max(most, 1);
            firsts = new int[room];
            lasts = new int[room];
        }

        int find(int first, int last) {
            for (int k = 0; k < count; k++) {
                if (firsts[k] == first && lasts[k] == last) {
                    return k;
                }
            }
            return NONE;
        }

        boolean insert(int place, int first, int last) {
            if (count >= firsts.length || place < 0 || place > count) {
                return false;
            }
            for (int k = count; k > place; k--) {
                firsts[k] = firsts[k - 1];
                lasts[k] = lasts[k - 1];
            }
            firsts[place] = first;
            lasts[place] = last;
            count++;
            return true;
        }

        boolean liesIn(int inner, int outer) {
            return firsts[outer] <= firsts[inner] && lasts[inner] <= lasts[outer];
        }
    }

    /** The pressings in their order; the one of all copper layers is there untold, as the last one. */
    private static final class Pressings {
        final Spans spans = new Spans(MOST_PRESSES + 1);
        private boolean lastIsTold;

        void clear() {
            spans.count = 0;
            lastIsTold = false;
        }

        void addLast(int lastCopper) {
            spans.insert(spans.count, 0, lastCopper);
        }

        int countTold() {
            return lastIsTold ? spans.count : Math.max(spans.count - 1, 0);
        }

        boolean tell(int first, int last) {
            int known = spans.find(first, last);
            if (known != NONE) {
                boolean isNew = known == spans.count - 1 && !lastIsTold;
                lastIsTold = lastIsTold || isNew;
                return isNew;
            }
            for (int k = 0; k < spans.count; k++) {
                if (crosses(k, first, last)) {
                    return false;
                }
            }
            return spans.insert(placeFor(first, last), first, last);
        }

        /** A pressing lies right inside the first one behind it in the order that has it whole. */
        int countRightInside(int outer) {
            int inside = 0;
            for (int inner = 0; inner < outer; inner++) {
                if (findHolder(inner) == outer) {
                    inside++;
                }
            }
            return inside;
        }

        private int findHolder(int inner) {
            for (int outer = inner + 1; outer < spans.count; outer++) {
                if (spans.liesIn(inner, outer)) {
                    return outer;
                }
            }
            return NONE;
        }

        private boolean crosses(int k, int first, int last) {
            int otherFirst = spans.firsts[k];
            int otherLast = spans.lasts[k];
            boolean apart = last < otherFirst || otherLast < first;
            boolean within = otherFirst <= first && last <= otherLast;
            boolean around = first <= otherFirst && otherLast <= last;
            return !apart && !within && !around;
        }

        private int placeFor(int first, int last) {
            int place = 0;
            while (place < spans.count && comesAhead(place, first, last)) {
                place++;
            }
            return place;
        }

        private boolean comesAhead(int k, int first, int last) {
            int joins = spans.lasts[k] - spans.firsts[k];
            return joins < last - first || joins == last - first && spans.firsts[k] < first;
        }
    }

    /** A stack; one without layers stands for none. */
    private static final class Board {
        final int[] kinds = new int[MOST_LAYERS];
        /** A name is one number, seven bits a letter, so that names are equal when the numbers are. */
        final long[] names = new long[MOST_LAYERS];
        final int[] thicknesses = new int[MOST_LAYERS];
        final int[] spreads = new int[MOST_LAYERS];
        final int[] shares = new int[MOST_LAYERS];
        final int[] copperNumbers = new int[MOST_LAYERS];
        final int[] copperLayers = new int[MOST_COPPERS];
        final Pressings pressings = new Pressings();
        final Spans vias = new Spans(MOST_VIAS);
        int layers;
        int coppers;
        private boolean isInsulated;

        void clear() {
            layers = 0;
            coppers = 0;
            isInsulated = false;
            pressings.clear();
            vias.count = 0;
        }

        /** Whether a layer of this kind can stand behind those that are there. */
        boolean canTake(int kind) {
            if (layers >= MOST_LAYERS || pressings.countTold() > 0 || vias.count > 0) {
                return false;
            }
            if (layers == 0) {
                return kind == MASK || kind == COPPER;
            }
            int former = kinds[layers - 1];
            if (former == MASK) {
                return layers == 1 && kind == COPPER;
            }
            if (kind == MASK) {
                return former == COPPER;
            }
            return kind != COPPER || isInsulated && coppers < MOST_COPPERS;
        }

        void addLayer(int kind, long name, int thickness, int spread) {
            if (layers >= MOST_LAYERS || coppers >= MOST_COPPERS && kind == COPPER) {
                return;
            }
            kinds[layers] = kind;
            names[layers] = name;
            thicknesses[layers] = thickness;
            spreads[layers] = spread;
            shares[layers] = THOUSAND;
            copperNumbers[layers] = NONE;
            if (kind == COPPER) {
                copperNumbers[layers] = coppers;
                copperLayers[coppers] = layers;
                coppers++;
                isInsulated = false;
            } else if (kind == CORE || kind == PREPREG) {
                isInsulated = true;
            }
            layers++;
        }

        /** Ends the layers, once: whether they are a stack. */
        boolean endLayers() {
            if (coppers < LEAST_COPPERS || layers == 0) {
                return false;
            }
            int last = kinds[layers - 1];
            if (last != COPPER && last != MASK) {
                return false;
            }
            if (pressings.spans.count == 0) {
                pressings.addLast(coppers - 1);
            }
            return true;
        }

        /** Whether one more press or via can be told. */
        boolean canTell(int word) {
            if (word == PRESS) {
                return vias.count == 0 && pressings.countTold() < MOST_PRESSES;
            }
            return vias.count < MOST_VIAS;
        }

        boolean tell(int word, int first, int last) {
            if (word == PRESS) {
                return pressings.tell(first, last);
            }
            boolean isVia = pressings.spans.find(first, last) != NONE;
            return isVia && vias.find(first, last) == NONE && vias.insert(vias.count, first, last);
        }

        int findCopper(long name) {
            for (int number = 0; number < coppers; number++) {
                if (names[copperLayers[number]] == name) {
                    return number;
                }
            }
            return NONE;
        }

        boolean changeShare(int copper, int share) {
            int layer = copperLayers[copper];
            boolean isOther = shares[layer] != share;
            shares[layer] = share;
            return isOther;
        }

        long endInThousandths(int layer, int end) {
            int factor = end == 0 ? THOUSAND - spreads[layer] : THOUSAND + spreads[layer];
            return (long) thicknesses[layer] * factor;
        }

        /** Layers that are not copper have a share of 1000 for good, spare ones a thickness of 0. */
        long sumInMillionths(int end) {
            long millionths = 0;
            for (int layer = 0; layer < layers; layer++) {
                millionths += endInThousandths(layer, end) * shares[layer];
            }
            return millionths;
        }

        int findSkew(int k) {
            int seen = 0;
            for (int layer = 0; layer < layers; layer++) {
                if (differ(layer, layers - 1 - layer)) {
                    if (seen == k) {
                        return layer;
                    }
                    seen++;
                }
            }
            return NONE;
        }

        private boolean differ(int one, int other) {
            return kinds[one] != kinds[other]
                    || kinds[one] != COPPER && names[one] != names[other]
                    || thicknesses[one] != thicknesses[other]
                    || spreads[one] != spreads[other]
                    || shares[one] != shares[other];
        }
    }

    /** The makers' lists: for each layer the bounds of what a maker has, if there is a row. */
    private static final class MakerLists {
        /** NONE where there is no row: a row's low bound is never below 0. */
        private final long[][] lows = new long[MOST_LISTS][MOST_LAYERS];
        private final long[][] highs = new long[MOST_LISTS][MOST_LAYERS];
        int count;

        void forget() {
            count = 0;
        }

        int open() {
            if (count >= MOST_LISTS) {
                return NONE;
            }
            Arrays.fill(lows[count], NONE);
            count++;
            return count - 1;
        }

        boolean addRow(int list, int layer, long low, long high) {
            if (lows[list][layer] != NONE) {
                return false;
            }
            lows[list][layer] = low;
            highs[list][layer] = high;
            return true;
        }

        int countChanges(int list, Board board) {
            int changed = 0;
            for (int layer = 0; layer < board.layers; layer++) {
                if (board.kinds[layer] != SPARE && !fits(list, layer, board.thicknesses[layer])) {
                    changed++;
                }
            }
            return changed;
        }

        int findLeastChanged(Board board) {
            int best = NONE;
            int least = MOST_LAYERS + 1;
            for (int list = 0; list < count; list++) {
                int changed = countChanges(list, board);
                if (changed < least) {
                    best = list;
                    least = changed;
                }
            }
            return best;
        }

        private boolean fits(int list, int layer, long thickness) {
            long low = lows[list][layer];
            return low != NONE && low <= thickness && thickness <= highs[list][layer];
        }
    }

    /** The text, and its reading: each step tells whether it went well, or keeps the fault's place. */
    private static final class TextReader {
        private final char[] characters = new char[MOST_CHARACTERS];
        private int length;
        private int at;
        private int lineStart;
        private int fault;

        boolean append(int u) {
            boolean isCharacter = u == '\n' || u >= ' ' && u <= '~';
            if (!isCharacter || length >= MOST_CHARACTERS) {
                return false;
            }
            characters[length] = (char) u;
            length++;
            return true;
        }

        void forget() {
            length = 0;
        }

        /** The place of the text's fault, or NONE when the board holds what the text tells. */
        int readInto(Board board) {
            board.clear();
            at = 0;
            fault = NONE;
            // No more lines than characters: each line that goes well takes one at least.
            for (int line = 0; line < MOST_CHARACTERS && at < length; line++) {
                if (!readLine(board)) {
                    return fault;
                }
            }
            return board.endLayers() ? NONE : length;
        }

        private boolean readLine(Board board) {
            lineStart = at;
            int word = readWord();
            if (word == NONE) {
                return false;
            }
            boolean isRead = word == PRESS || word == VIA ? readSpan(board, word) : readLayer(board, word);
            return isRead && expect('\n');
        }

        /** No word begins with another one, so the one that is there whole is the only one. */
        private int readWord() {
            int farthest = 0;
            for (int word = 0; word < WORDS; word++) {
                String spelling = spellingOf(word);
                int same = countSameLetters(spelling);
                if (same == spelling.length()) {
                    at += same;
                    return word;
                }
                farthest = Math.max(farthest, same);
            }
            faultAt(at + farthest);
            return NONE;
        }

        private int countSameLetters(String spelling) {
            int same = 0;
            while (same < spelling.length() && characterAt(at + same) == spelling.charAt(same)) {
                same++;
            }
            return same;
        }

        private boolean readLayer(Board board, int kind) {
            if (!board.canTake(kind)) {
                return faultAt(lineStart);
            }
            if (!expect(' ')) {
                return false;
            }
            int nameStart = at;
            long name = readName();
            if (name == NO_NAME) {
                return false;
            }
            if (kind == COPPER && board.findCopper(name) != NONE) {
                return faultAt(nameStart);
            }
            if (kind == SPARE) {
                board.addLayer(kind, name, 0, 0);
                return true;
            }
            int thickness = readNumber(THICKNESS_DIGITS, THICKNESS_DECIMALS, MOST_THICKNESS);
            if (thickness == NONE) {
                return false;
            }
            int spread = readNumber(SPREAD_DIGITS, SPREAD_DECIMALS, MOST_SPREAD);
            if (spread == NONE) {
                return false;
            }
            board.addLayer(kind, name, thickness, spread);
            return true;
        }

        private boolean readSpan(Board board, int word) {
            if (!board.endLayers() || !board.canTell(word)) {
                return faultAt(lineStart);
            }
            int first = readCopper(board, NONE);
            int last = first == NONE ? NONE : readCopper(board, first);
            if (last == NONE) {
                return false;
            }
            return board.tell(word, first, last) || faultAt(lineStart);
        }

        /** A space and the name of a copper layer behind another one: its number, or NONE. */
        private int readCopper(Board board, int ahead) {
            if (!expect(' ')) {
                return NONE;
            }
            int start = at;
            long name = readName();
            if (name == NO_NAME) {
                return NONE;
            }
            int number = board.findCopper(name);
            if (number <= ahead) {
                faultAt(start);
                return NONE;
            }
            return number;
        }

        private long readName() {
            int start = at;
            long name = NO_NAME;
            while (at - start < MOST_LETTERS && isLetterOrDigit(characterAt(at))) {
                name = name << LETTER_BITS | characterAt(at);
                at++;
            }
            // A letter too many is a fault of its own, ahead of all that is asked of a name.
            if (at == start || isLetterOrDigit(characterAt(at))) {
                faultAt(at);
                return NO_NAME;
            }
            return name;
        }

        /** A space and a number, in units of the last decimal that may be told; or NONE. */
        private int readNumber(int mostDigits, int mostDecimals, int most) {
            if (!expect(' ')) {
                return NONE;
            }
            int start = at;
            int value = readDigits(0, mostDigits);
            int decimals = 0;
            if (value != NONE && characterAt(at) == '.') {
                at++;
                int point = at;
                value = readDigits(value, mostDecimals);
                decimals = at - point;
            }
            if (value == NONE) {
                return NONE;
            }
            for (int decimal = decimals; decimal < mostDecimals; decimal++) {
                value *= 10;
            }
            if (value > most) {
                faultAt(start);
                return NONE;
            }
            return value;
        }

        /** Digits, one at least, that go on with a number; NONE when there is none, or one too many. */
        private int readDigits(int ahead, int most) {
            int start = at;
            int value = ahead;
            while (at - start < most && isDigit(characterAt(at))) {
                value = value * 10 + characterAt(at) - '0';
                at++;
            }
            if (at == start || isDigit(characterAt(at))) {
                faultAt(at);
                return NONE;
            }
            return value;
        }

        private boolean expect(char wanted) {
            if (characterAt(at) != wanted) {
                return faultAt(at);
            }
            at++;
            return true;
        }

        private boolean faultAt(int place) {
            fault = place;
            return false;
        }

        private int characterAt(int place) {
            return place >= 0 && place < length && place < MOST_CHARACTERS ? characters[place] : NONE;
        }

        private static boolean isDigit(int character) {
            return character >= '0' && character <= '9';
        }

        private static boolean isLetterOrDigit(int character) {
            return isDigit(character)
                    || character >= 'a' && character <= 'z'
                    || character >= 'A' && character <= 'Z';
        }
    }

    /** A board written; never longer than the text it was read from, so the same room is enough. */
    private static final class Writing {
        private static final int MOST_DIGITS = 8;

        private final char[] characters = new char[MOST_CHARACTERS];
        private final char[] digits = new char[MOST_DIGITS];
        private int length;

        int characterAt(int i) {
            return i >= 0 && i < length && i < MOST_CHARACTERS ? characters[i] : NONE;
        }

        void putBoard(Board board) {
            length = 0;
            for (int layer = 0; layer < board.layers; layer++) {
                putLayer(board, layer);
            }
            Spans pressings = board.pressings.spans;
            for (int k = 0; k < pressings.count - 1; k++) {
                putSpan(board, PRESS, pressings.firsts[k], pressings.lasts[k]);
            }
            for (int k = 0; k < board.vias.count; k++) {
                putSpan(board, VIA, board.vias.firsts[k], board.vias.lasts[k]);
            }
        }

        private void putLayer(Board board, int layer) {
            putWord(spellingOf(board.kinds[layer]));
            put(' ');
            putName(board.names[layer]);
            if (board.kinds[layer] != SPARE) {
                put(' ');
                putNumber(board.thicknesses[layer], THICKNESS_DECIMALS);
                put(' ');
                putNumber(board.spreads[layer], SPREAD_DECIMALS);
            }
            put('\n');
        }

        private void putSpan(Board board, int word, int first, int last) {
            putWord(spellingOf(word));
            put(' ');
            putName(board.names[board.copperLayers[first]]);
            put(' ');
            putName(board.names[board.copperLayers[last]]);
            put('\n');
        }

        private void putWord(String word) {
            for (int i = 0; i < word.length(); i++) {
                put(word.charAt(i));
            }
        }

        private void putName(long name) {
            for (int letter = MOST_LETTERS - 1; letter >= 0; letter--) {
                int character = (int) (name >> letter * LETTER_BITS) & LETTER_MASK;
                if (character != 0) {
                    put((char) character);
                }
            }
        }

        private void putNumber(int value, int mostDecimals) {
            int rest = value;
            int decimals = mostDecimals;
            while (decimals > 0 && rest % 10 == 0) {
                rest /= 10;
                decimals--;
            }
            int used = 0;
            // One digit stands ahead of the point, be it a 0.
            while (used < MOST_DIGITS && (rest > 0 || used <= decimals)) {
                digits[used] = (char) ('0' + rest % 10);
                rest /= 10;
                used++;
            }
            for (int i = used - 1; i >= 0; i--) {
                put(digits[i]);
                if (i > 0 && i == decimals) {
                    put('.');
                }
            }
        }

        private void put(char character) {
            if (length < MOST_CHARACTERS) {
                characters[length] = character;
                length++;
            }
        }
    }
}
