import java.util.NoSuchElementException;

/**
 * A book of genes on one strand of bases: lines with features are read, strictly, and put together
 * by their parents; genes are checked, transcripts spliced and turned around, proteins translated
 * by two codes, open frames found in all six ways, and the book is written in order again.
 */
public final class GeneBook {
    public static final int NONE = -1;

    private static final int MOST_BASES = 120;
    private static final int MOST_SIGNS = 72;
    private static final int MOST_FEATURES = 14;
    private static final int MOST_AT_ONCE = 8;
    private static final int MOST_WORD_SIGNS = 6;
    private static final int COLUMNS = 9;

    private static final char TAB = 9;
    private static final char LINE_END = 10;

    private static final int GENE = 0;
    private static final int MRNA = 1;
    private static final int EXON = 2;
    private static final int CDS = 3;

    private static final int PLUS = 0;
    private static final int MINUS = 1;

    private static final int ID = 0;
    private static final int PARENT = 1;
    private static final int NOTE = 2;
    private static final int ATTRIBUTES = 3;

    private static final int NO_PARENT = 1;
    private static final int WRONG_PARENT = 2;
    private static final int NOT_WITHIN = 3;
    private static final int EXONS_MEET = 4;
    private static final int NO_EXON_AROUND = 5;
    private static final int CDSS_MEET = 6;
    private static final int WRONG_PHASE = 7;

    private final Row sequence;
    private final Row line;
    private final Row out;
    private final Row spliced;
    private final Book book;
    private final Reader reader;
    private final FrameFinder finder;

    public GeneBook() {
        sequence = new Row(MOST_BASES);
        line = new Row(MOST_SIGNS);
        out = new Row(MOST_FEATURES * (MOST_SIGNS + 1));
        // Parts of a whole book's mRNA have no places in common, so they are never longer together.
        spliced = new Row(MOST_BASES);
        book = new Book();
        reader = new Reader(line);
        finder = new FrameFinder(sequence);
    }

    public boolean bases(long w, int n) {
        if (!sequence.takes(n)) {
            return false;
        }
        for (int i = 0; i < n; i++) {
            if (!Bases.isBase(signOf(w, i))) {
                return false;
            }
        }
        sequence.putBytes(w, n);
        return true;
    }

    public boolean type(long w, int n) {
        if (!line.takes(n)) {
            return false;
        }
        for (int i = 0; i < n; i++) {
            char sign = signOf(w, i);
            if (sign != TAB && (sign < 32 || sign > 126)) {
                return false;
            }
        }
        line.putBytes(w, n);
        return true;
    }

    public boolean cut(int n) {
        if (n < 0 || n > line.size()) {
            return false;
        }
        line.keep(n);
        return true;
    }

    public void clear() {
        sequence.keep(0);
        line.keep(0);
        book.empty();
    }

    public int length() {
        return sequence.size();
    }

    public int add() throws IllegalArgumentException, IllegalStateException,
            NoSuchElementException, UnsupportedOperationException {
        Feature draft = book.draft();
        if (!reader.reads(draft, sequence.size())) {
            throw new IllegalArgumentException();
        }
        if (!draft.hasDueAttributes()) {
            throw new IllegalStateException();
        }
        if (book.numberOf(draft.words[ID]) != NONE) {
            throw new NoSuchElementException();
        }
        if (book.isFull()) {
            throw new UnsupportedOperationException();
        }
        line.keep(0);
        return book.keepDraft();
    }

    public int features() {
        return book.count();
    }

    public int about(int k, int part) throws IndexOutOfBoundsException {
        if (!book.has(k)) {
            throw new IndexOutOfBoundsException();
        }
        Feature feature = book.feature(k);
        switch (part) {
            case 0:
                return feature.kind;
            case 1:
                return feature.start;
            case 2:
                return feature.end;
            case 3:
                return feature.strand;
            case 4:
                return feature.phase;
            case 5:
                return book.parentOf(k);
            default:
                throw new IndexOutOfBoundsException();
        }
    }

    public int fault() {
        return book.firstFault();
    }

    public int tell(int k, int code) throws IndexOutOfBoundsException, IllegalArgumentException,
            IllegalStateException, UnsupportedOperationException {
        if (!book.has(k) || code < 0 || code > 2) {
            throw new IndexOutOfBoundsException();
        }
        if (book.feature(k).kind != MRNA) {
            throw new IllegalArgumentException();
        }
        if (book.firstFault() != 0) {
            throw new IllegalStateException();
        }
        int parts = book.gatherParts(k, code == 0 ? EXON : CDS);
        if (parts == 0) {
            throw new UnsupportedOperationException();
        }
        splice(parts);
        out.keep(0);
        if (code == 0) {
            out.putRow(spliced);
        } else {
            putProtein(code, book.ordered(0).phase);
        }
        return out.size();
    }

    public int frames(int code, int codons) throws IllegalArgumentException {
        if (code != 1 && code != 2) {
            throw new IllegalArgumentException();
        }
        return finder.count(code, codons);
    }

    public int frame(int code, int codons, int k, int part)
            throws IllegalArgumentException, IndexOutOfBoundsException {
        if (code != 1 && code != 2) {
            throw new IllegalArgumentException();
        }
        int spot = finder.spotOf(code, codons, k);
        if (spot == NONE) {
            throw new IndexOutOfBoundsException();
        }
        switch (part) {
            case 0:
                return finder.codonsAt(code, spot);
            case 1:
                return finder.placeAt(spot);
            case 2:
                return finder.strandAt(spot);
            default:
                throw new IndexOutOfBoundsException();
        }
    }

    public int write() {
        out.keep(0);
        int count = book.gatherAll();
        for (int i = 0; i < count; i++) {
            book.ordered(i).putInto(out);
            out.put(LINE_END);
        }
        return out.size();
    }

    public int out(int i) {
        return out.sign(i);
    }

    private static char signOf(long w, int i) {
        return (char) (w >>> (8 * i) & 255);
    }

    private void splice(int parts) {
        spliced.keep(0);
        for (int i = 0; i < parts; i++) {
            Feature part = book.ordered(i);
            int span = part.span();
            for (int j = 0; j < span; j++) {
                spliced.put(baseOf(part, j));
            }
        }
    }

    private char baseOf(Feature part, int j) {
        if (part.strand == PLUS) {
            return sequence.sign(part.start - 1 + j);
        }
        return Bases.complement(sequence.sign(part.end - 1 - j));
    }

    private void putProtein(int code, int phase) {
        for (int i = phase; i + 3 <= spliced.size(); i += 3) {
            out.put(Bases.letter(code, spliced.sign(i), spliced.sign(i + 1), spliced.sign(i + 2)));
        }
    }

    /** A row of characters that is made once and never grows, so that calls make no objects. */
    private static final class Row {
        private final char[] signs;
        private int size;

        Row(int most) {
            signs = new char[most];
            size = 0;
        }

        int size() {
            return size;
        }

        char sign(int i) {
            return i >= 0 && i < size ? signs[i] : 0;
        }

        boolean takes(int n) {
            return n >= 1 && n <= MOST_AT_ONCE && size + n <= signs.length;
        }

        void keep(int n) {
            if (n >= 0 && n <= size) {
                size = n;
            }
        }

        void put(char sign) {
            if (size < signs.length) {
                signs[size] = sign;
                size++;
            }
        }

        void putBytes(long w, int n) {
            for (int i = 0; i < n; i++) {
                put(signOf(w, i));
            }
        }

        void putText(String text) {
            for (int i = 0; i < text.length(); i++) {
                put(text.charAt(i));
            }
        }

        void putRow(Row other) {
            putBeginning(other, other.size);
        }

        void putBeginning(Row other, int n) {
            for (int i = 0; i < n; i++) {
                put(other.sign(i));
            }
        }

        boolean hasAt(int from, String text) {
            for (int i = 0; i < text.length(); i++) {
                if (sign(from + i) != text.charAt(i)) {
                    return false;
                }
            }
            return true;
        }
    }

    private static final class Bases {
        private static final String DIGITS = "TCAGN";
        private static final String CODE_1 =
                "FFLLSSSSYY**CC*WLLLLPPPPHHQQRRRRIIIMTTTTNNKKSSRRVVVVAAAADDEEGGGG";
        private static final String CODE_2 =
                "FFLLSSSSYY**CCWWLLLLPPPPHHQQRRRRIIMMTTTTNNKKSS**VVVVAAAADDEEGGGG";

        static boolean isBase(char sign) {
            return DIGITS.indexOf(sign) >= 0;
        }

        static char complement(char base) {
            switch (base) {
                case 'A':
                    return 'T';
                case 'C':
                    return 'G';
                case 'G':
                    return 'C';
                case 'T':
                    return 'A';
                default:
                    return base;
            }
        }

        // N has the digit 4 so that it begins at 4 & 3, which is 0, and ends at 3: it may be any base.
        static char letter(int code, char a, char b, char c) {
            String letters = code == 1 ? CODE_1 : CODE_2;
            int first = DIGITS.indexOf(a);
            int second = DIGITS.indexOf(b);
            int third = DIGITS.indexOf(c);
            char found = 0;
            for (int i = first & 3; i <= Math.min(first, 3); i++) {
                for (int j = second & 3; j <= Math.min(second, 3); j++) {
                    for (int k = third & 3; k <= Math.min(third, 3); k++) {
                        char letter = letters.charAt(16 * i + 4 * j + k);
                        if (found != 0 && found != letter) {
                            return 'X';
                        }
                        found = letter;
                    }
                }
            }
            return found;
        }
    }

    private static final class Feature {
        private int kind;
        private int start;
        private int end;
        private int strand;
        private int phase;
        /** The words of ID, PARENT and NOTE, a byte for a sign: they compare as numbers; 0 is none. */
        private final long[] words;
        /** The line up to its attributes: only these may be written otherwise than they came. */
        private final Row head;

        Feature() {
            words = new long[ATTRIBUTES];
            head = new Row(MOST_SIGNS);
        }

        static String attribute(int which) {
            switch (which) {
                case ID:
                    return "ID=";
                case PARENT:
                    return "PARENT=";
                default:
                    return "NOTE=";
            }
        }

        void empty() {
            head.keep(0);
            for (int which = ID; which <= NOTE; which++) {
                words[which] = 0;
            }
        }

        int span() {
            return end - start + 1;
        }

        boolean hasDueAttributes() {
            if (kind == GENE) {
                return words[ID] != 0 && words[PARENT] == 0;
            }
            return words[PARENT] != 0;
        }

        boolean isWithin(Feature other) {
            return start >= other.start && end <= other.end;
        }

        boolean meets(Feature other) {
            return start <= other.end && other.start <= end;
        }

        void putInto(Row row) {
            row.putRow(head);
            boolean isFirst = true;
            for (int which = ID; which <= NOTE; which++) {
                if (words[which] != 0) {
                    if (!isFirst) {
                        row.put(';');
                    }
                    isFirst = false;
                    row.putText(attribute(which));
                    putWord(row, words[which]);
                }
            }
        }

        private static void putWord(Row row, long word) {
            for (int i = 0; i < MOST_WORD_SIGNS && signOf(word, i) != 0; i++) {
                row.put(signOf(word, i));
            }
        }
    }

    /** Reads the line into a draft; a draft that is left half read is in no book. */
    private static final class Reader {
        private final Row line;
        private final int[] ends;

        Reader(Row line) {
            this.line = line;
            ends = new int[COLUMNS];
        }

        boolean reads(Feature draft, int lastPlace) {
            draft.empty();
            if (!findColumns()) {
                return false;
            }
            draft.head.putBeginning(line, from(8));
            return from(0) < ends[0]
                    && isText(1, ".")
                    && readsKind(draft)
                    && readsPlaces(draft, lastPlace)
                    && isText(5, ".")
                    && readsStrand(draft)
                    && readsPhase(draft)
                    && readsAttributes(draft);
        }

        private boolean findColumns() {
            int found = 0;
            for (int i = 0; i < line.size(); i++) {
                if (line.sign(i) == TAB) {
                    if (found == COLUMNS - 1) {
                        return false;
                    }
                    ends[found] = i;
                    found++;
                }
            }
            ends[COLUMNS - 1] = line.size();
            return found == COLUMNS - 1;
        }

        private int from(int column) {
            return column == 0 ? 0 : ends[column - 1] + 1;
        }

        private boolean isText(int column, String text) {
            int from = from(column);
            return ends[column] - from == text.length() && line.hasAt(from, text);
        }

        private boolean readsKind(Feature draft) {
            if (isText(2, "gene")) {
                draft.kind = GENE;
            } else if (isText(2, "mRNA")) {
                draft.kind = MRNA;
            } else if (isText(2, "exon")) {
                draft.kind = EXON;
            } else if (isText(2, "CDS")) {
                draft.kind = CDS;
            } else {
                return false;
            }
            return true;
        }

        private boolean readsPlaces(Feature draft, int lastPlace) {
            draft.start = number(3);
            draft.end = number(4);
            return draft.start != NONE && draft.start <= draft.end && draft.end <= lastPlace;
        }

        private int number(int column) {
            int from = from(column);
            int digits = ends[column] - from;
            if (digits < 1 || digits > 3 || line.sign(from) == '0') {
                return NONE;
            }
            int number = 0;
            for (int i = from; i < ends[column]; i++) {
                if (!isDigit(line.sign(i))) {
                    return NONE;
                }
                number = 10 * number + (line.sign(i) - '0');
            }
            return number;
        }

        private boolean readsStrand(Feature draft) {
            if (isText(6, "+")) {
                draft.strand = PLUS;
                return true;
            }
            draft.strand = MINUS;
            return isText(6, "-");
        }

        private boolean readsPhase(Feature draft) {
            if (draft.kind != CDS) {
                draft.phase = NONE;
                return isText(7, ".");
            }
            draft.phase = line.sign(from(7)) - '0';
            return ends[7] - from(7) == 1 && draft.phase >= 0 && draft.phase <= 2;
        }

        private boolean readsAttributes(Feature draft) {
            int from = from(8);
            for (int i = from; i <= line.size(); i++) {
                if (i == line.size() || line.sign(i) == ';') {
                    if (!readsAttribute(draft, from, i)) {
                        return false;
                    }
                    from = i + 1;
                }
            }
            return true;
        }

        // A name that fits ends before to, since none has the ; in it that is there.
        private boolean readsAttribute(Feature draft, int from, int to) {
            for (int which = ID; which <= NOTE; which++) {
                String name = Feature.attribute(which);
                if (line.hasAt(from, name)) {
                    if (draft.words[which] != 0) {
                        return false;
                    }
                    draft.words[which] = word(from + name.length(), to);
                    return draft.words[which] != 0;
                }
            }
            return false;
        }

        private long word(int from, int to) {
            if (to - from < 1 || to - from > MOST_WORD_SIGNS) {
                return 0;
            }
            long word = 0;
            for (int i = to - 1; i >= from; i--) {
                char sign = line.sign(i);
                if (!isDigit(sign) && !isLetter(sign)) {
                    return 0;
                }
                word = word << 8 | sign;
            }
            return word;
        }

        private static boolean isDigit(char sign) {
            return sign >= '0' && sign <= '9';
        }

        private static boolean isLetter(char sign) {
            return sign >= 'a' && sign <= 'z' || sign >= 'A' && sign <= 'Z';
        }
    }

    private static final class Book {
        private static final int BY_STARTS = 0;
        private static final int BY_ENDS = 1;
        private static final int TO_WRITE = 2;

        /** One more than the book may have: the one behind the last feature is the draft. */
        private final Feature[] slots;
        private final int[] order;
        private int count;

        Book() {
            slots = new Feature[MOST_FEATURES + 1];
            for (int i = 0; i <= MOST_FEATURES; i++) {
                slots[i] = new Feature();
            }
            order = new int[MOST_FEATURES];
            count = 0;
        }

        int count() {
            return count;
        }

        boolean isFull() {
            return count == MOST_FEATURES;
        }

        boolean has(int k) {
            return k >= 0 && k < count;
        }

        Feature feature(int k) {
            return slots[k];
        }

        Feature ordered(int i) {
            return slots[order[i]];
        }

        Feature draft() {
            return slots[count];
        }

        int keepDraft() {
            count++;
            return count - 1;
        }

        void empty() {
            count = 0;
        }

        int numberOf(long id) {
            for (int k = 0; k < count && id != 0; k++) {
                if (slots[k].words[ID] == id) {
                    return k;
                }
            }
            return NONE;
        }

        int parentOf(int k) {
            return numberOf(slots[k].words[PARENT]);
        }

        int firstFault() {
            for (int k = 0; k < count; k++) {
                int fault = faultOf(k);
                if (fault != 0) {
                    return k + 16 * fault;
                }
            }
            return 0;
        }

        private int faultOf(int k) {
            Feature feature = slots[k];
            if (feature.kind == GENE) {
                return 0;
            }
            int parent = parentOf(k);
            if (parent == NONE) {
                return NO_PARENT;
            }
            if (slots[parent].kind != (feature.kind == MRNA ? GENE : MRNA)) {
                return WRONG_PARENT;
            }
            if (!feature.isWithin(slots[parent]) || feature.strand != slots[parent].strand) {
                return NOT_WITHIN;
            }
            if (feature.kind == MRNA) {
                return 0;
            }
            if (feature.kind == EXON) {
                return meetsSibling(k, parent) ? EXONS_MEET : 0;
            }
            if (!hasExonAround(k, parent)) {
                return NO_EXON_AROUND;
            }
            if (meetsSibling(k, parent)) {
                return CDSS_MEET;
            }
            return hasRightPhase(k, parent) ? 0 : WRONG_PHASE;
        }

        private boolean meetsSibling(int k, int parent) {
            for (int other = 0; other < count; other++) {
                if (other != k && isPart(other, parent, slots[k].kind)
                        && slots[k].meets(slots[other])) {
                    return true;
                }
            }
            return false;
        }

        private boolean hasExonAround(int k, int parent) {
            for (int exon = 0; exon < count; exon++) {
                if (isPart(exon, parent, EXON) && slots[k].isWithin(slots[exon])) {
                    return true;
                }
            }
            return false;
        }

        private boolean hasRightPhase(int k, int parent) {
            int parts = gatherParts(parent, CDS);
            for (int i = 1; i < parts; i++) {
                if (order[i] == k) {
                    return slots[k].phase == phaseBehind(ordered(i - 1));
                }
            }
            return true;
        }

        private static int phaseBehind(Feature before) {
            int span = before.span();
            if (span < before.phase) {
                return before.phase - span;
            }
            return (3 - (span - before.phase) % 3) % 3;
        }

        // Exons and CDSs always name a parent, so an mRNA without an ID has no parts.
        private boolean isPart(int k, int mrna, int kind) {
            return slots[k].kind == kind && slots[k].words[PARENT] == slots[mrna].words[ID];
        }

        /** Orders the parts of one kind of an mRNA, and answers how many there are. */
        int gatherParts(int mrna, int kind) {
            int rule = slots[mrna].strand == PLUS ? BY_STARTS : BY_ENDS;
            int found = 0;
            for (int k = 0; k < count; k++) {
                if (isPart(k, mrna, kind)) {
                    putInOrder(k, found, rule);
                    found++;
                }
            }
            return found;
        }

        /** Orders all features as they are written, and answers how many there are. */
        int gatherAll() {
            for (int k = 0; k < count; k++) {
                putInOrder(k, k, TO_WRITE);
            }
            return count;
        }

        // Those that no rule tells apart stay as they come, which is by their numbers.
        private void putInOrder(int k, int found, int rule) {
            int i = found;
            while (i > 0 && comesBefore(slots[k], ordered(i - 1), rule)) {
                order[i] = order[i - 1];
                i--;
            }
            order[i] = k;
        }

        private static boolean comesBefore(Feature a, Feature b, int rule) {
            if (rule == BY_STARTS) {
                return a.start < b.start;
            }
            if (rule == BY_ENDS) {
                return a.end > b.end;
            }
            if (a.start != b.start) {
                return a.start < b.start;
            }
            if (a.end != b.end) {
                return a.end > b.end;
            }
            return a.kind < b.kind;
        }
    }

    /**
     * Finds open frames. A spot is where a frame may begin: first the bases of the sequence, one
     * after the other, and behind them those of its complement, so that spots are in order.
     */
    private static final class FrameFinder {
        private final Row sequence;

        FrameFinder(Row sequence) {
            this.sequence = sequence;
        }

        int count(int code, int codons) {
            int least = Math.max(1, codons);
            int found = 0;
            for (int spot = 0; spot < 2 * sequence.size(); spot++) {
                if (codonsAt(code, spot) >= least) {
                    found++;
                }
            }
            return found;
        }

        int spotOf(int code, int codons, int k) {
            int least = Math.max(1, codons);
            int found = 0;
            for (int spot = 0; spot < 2 * sequence.size(); spot++) {
                if (codonsAt(code, spot) >= least) {
                    if (found == k) {
                        return spot;
                    }
                    found++;
                }
            }
            return NONE;
        }

        int strandAt(int spot) {
            return spot < sequence.size() ? PLUS : MINUS;
        }

        int placeAt(int spot) {
            return spot < sequence.size() ? spot + 1 : 2 * sequence.size() - spot;
        }

        /** How many codons the open frame has that begins there; 0 when none does. */
        int codonsAt(int code, int spot) {
            int strand = strandAt(spot);
            int begin = spot - strand * sequence.size();
            if (!isStart(strand, begin) || hasStartBefore(code, strand, begin)) {
                return 0;
            }
            int codons = 1;
            for (int i = begin + 3; i + 3 <= sequence.size(); i += 3) {
                codons++;
                if (isStop(code, strand, i)) {
                    return codons;
                }
            }
            return 0;
        }

        private boolean hasStartBefore(int code, int strand, int begin) {
            for (int i = begin - 3; i >= 0 && !isStop(code, strand, i); i -= 3) {
                if (isStart(strand, i)) {
                    return true;
                }
            }
            return false;
        }

        private boolean isStart(int strand, int i) {
            return base(strand, i) == 'A' && base(strand, i + 1) == 'T' && base(strand, i + 2) == 'G';
        }

        private boolean isStop(int code, int strand, int i) {
            char letter = Bases.letter(code, base(strand, i), base(strand, i + 1), base(strand, i + 2));
            return letter == '*';
        }

        private char base(int strand, int i) {
            if (strand == PLUS) {
                return sequence.sign(i);
            }
            return Bases.complement(sequence.sign(sequence.size() - 1 - i));
        }
    }
}
