import java.util.NoSuchElementException;

/**
 * A book of genes on one strand of bases: lines with features are read, strictly, and put together
 * by their parents; genes are checked, transcripts spliced and turned around, proteins translated
 * by two codes, open frames found in all six ways, and the book is written in order again.
 */
public final class GeneBook {
    public static final int NONE = -1;

    private static final int MOST_BASES = 120;
    private static final int MOST_SIGNS = 72;
    private static final int MOST_FEATURES = 14;
    private static final int MOST_AT_ONCE = 8;
    private static final int MOST_WORD_SIGNS = 6;
    private static final int COLUMNS = 9;

    private static final char TAB = 9;
    private static final char LINE_END = 10;

    private static final int GENE = 0;
    private static final int MRNA = 1;
    private static final int EXON = 2;
    private static final int CDS = 3;

    private static final int PLUS = 0;
    private static final int MINUS = 1;

    private static final int ID = 0;
    private static final int PARENT = 1;
    private static final int NOTE = 2;
    private static final int ATTRIBUTES = 3;

    private static final int NO_PARENT = 1;
    private static final int WRONG_PARENT = 2;
    private static final int NOT_WITHIN = 3;
    private static final int EXONS_MEET = 4;
    private static final int NO_EXON_AROUND = 5;
    private static final int CDSS_MEET = 6;
    private static final int WRONG_PHASE = 7;

    private final Sequence sequence;
    private final Line line;
    private final Book book;
    private final Row out;
    private final Row spliced;

    public GeneBook() {
        sequence = new Sequence();
        line = new Line();
        book = new Book();
        out = new Row(MOST_FEATURES * (MOST_SIGNS + 1));
        // Parts of a whole book's mRNA have no places in common, so they are never longer together.
        spliced = new Row(MOST_BASES);
    }

    public boolean bases(long w, int n) {
        if (!sequence.row.takes(n)) {
            return false;
        }
        for (int i = 0; i < n; i++) {
            if (!Bases.isBase(signOf(w, i))) {
                return false;
            }
        }
        sequence.row.putBytes(w, n);
        return true;
    }

    public boolean type(long w, int n) {
        if (!line.row.takes(n)) {
            return false;
        }
        for (int i = 0; i < n; i++) {
            char sign = signOf(w, i);
            if (sign != TAB && (sign < 32 || sign > 126)) {
                return false;
            }
        }
        line.row.putBytes(w, n);
        return true;
    }

    public boolean cut(int n) {
        if (n < 0 || n > line.row.size()) {
            return false;
        }
        line.row.keep(n);
        return true;
    }

    public void clear() {
        sequence.row.keep(0);
        line.row.keep(0);
        book.empty();
    }

    public int length() {
        return sequence.row.size();
    }

    public int add() throws IllegalArgumentException, IllegalStateException,
            NoSuchElementException, UnsupportedOperationException {
        Feature draft = book.draft();
        if (!line.reads(draft, sequence.row.size())) {
            throw new IllegalArgumentException();
        }
        if (!draft.hasDueAttributes()) {
            throw new IllegalStateException();
        }
        if (book.numberOf(draft.words[ID]) != NONE) {
            throw new NoSuchElementException();
        }
        if (book.isFull()) {
            throw new UnsupportedOperationException();
        }
        line.row.keep(0);
        return book.keepDraft();
    }

    public int features() {
        return book.count();
    }

    public int about(int k, int part) throws IndexOutOfBoundsException {
        if (!book.has(k)) {
            throw new IndexOutOfBoundsException();
        }
        Feature feature = book.feature(k);
        switch (part) {
            case 0:
                return feature.kind;
            case 1:
                return feature.start;
            case 2:
                return feature.end;
            case 3:
                return feature.strand;
            case 4:
                return feature.phase;
            case 5:
                return book.parentOf(k);
            default:
                throw new IndexOutOfBoundsException();
        }
    }

    public int fault() {
        return book.firstFault();
    }

    public int tell(int k, int code) throws IndexOutOfBoundsException, IllegalArgumentException,
            IllegalStateException, UnsupportedOperationException {
        if (!book.has(k) || code < 0 || code > 2) {
            throw new IndexOutOfBoundsException();
        }
        if (book.feature(k).kind != MRNA) {
            throw new IllegalArgumentException();
        }
        if (book.firstFault() != 0) {
            throw new IllegalStateException();
        }
        int parts = book.gatherParts(k, code == 0 ? EXON : CDS);
        if (parts == 0) {
            throw new UnsupportedOperationException();
        }
        splice(parts);
        out.keep(0);
        if (code == 0) {
            out.putRow(spliced);
        } else {
            putProtein(code, book.ordered(0).phase);
        }
        return out.size();
    }

    public int frames(int code, int codons) throws IllegalArgumentException {
        if (code != 1 && code != 2) {
            throw new IllegalArgumentException();
        }
        return sequence.countFrames(code, codons);
    }

    public int frame(int code, int codons, int k, int part)
            throws IllegalArgumentException, IndexOutOfBoundsException {
        if (code != 1 && code != 2) {
            throw new IllegalArgumentException();
        }
        int spot = sequence.spotOfFrame(code, codons, k);
        if (spot == NONE) {
            throw new IndexOutOfBoundsException();
        }
        switch (part) {
            case 0:
                return sequence.codonsAt(code, spot);
            case 1:
                return sequence.placeAt(spot);
            case 2:
                return sequence.strandAt(spot);
            default:
                throw new IndexOutOfBoundsException();
        }
    }

    public int write() {
        out.keep(0);
        int count = book.gatherAll();
        for (int i = 0; i < count; i++) {
            book.ordered(i).putInto(out);
            out.put(LINE_END);
        }
        return out.size();
    }

    public int out(int i) {
        return out.sign(i);
    }

    private static char signOf(long w, int i) {
        return (char) (w >>> (8 * i) & 255);
    }

    private void splice(int parts) {
        spliced.keep(0);
        for (int i = 0; i < parts; i++) {
            Feature part = book.ordered(i);
            int span = part.span();
            int first = sequence.indexOfFirst(part);
            for (int j = 0; j < span; j++) {
                spliced.put(sequence.base(part.strand, first + j));
            }
        }
    }

    private void putProtein(int code, int phase) {
        for (int i = phase; i + 3 <= spliced.size(); i += 3) {
            out.put(Bases.letter(code, spliced.sign(i), spliced.sign(i + 1), spliced.sign(i + 2)));
        }
    }

    /** A row of characters that is made once and never grows, so that calls make no objects. */
    private static final class Row {
        private final char[] signs;
        private int size;

        Row(int most) {
            signs = new char[most];
            size = 0;
        }

        int size() {
            return size;
        }

        char sign(int i) {
            return i >= 0 && i < size ? signs[i] : 0;
        }

        boolean takes(int n) {
            return n >= 1 && n <= MOST_AT_ONCE && size + n <= signs.length;
        }

        void keep(int n) {
            if (n >= 0 && n <= size) {
                size = n;
            }
        }

        void put(char sign) {
            if (size < signs.length) {
                signs[size] = sign;
                size++;
            }
        }

        void putBytes(long w, int n) {
            for (int i = 0; i < n; i++) {
                put(signOf(w, i));
            }
        }

        void putText(String text) {
            for (int i = 0; i < text.length(); i++) {
                put(text.charAt(i));
            }
        }

        void putRow(Row other) {
            putBeginning(other, other.size);
        }

        void putBeginning(Row other, int n) {
            for (int i = 0; i < n; i++) {
                put(other.sign(i));
            }
        }

        boolean hasAt(int from, String text) {
            for (int i = 0; i < text.length(); i++) {
                if (sign(from + i) != text.charAt(i)) {
                    return false;
                }
            }
            return true;
        }
    }

    private static final class Bases {
        private static final String DIGITS = "TCAGN";
        private static final String CODE_1 =
                "FFLLSSSSYY**CC*WLLLLPPPPHHQQRRRRIIIMTTTTNNKKSSRRVVVVAAAADDEEGGGG";
        private static final String CODE_2 =
                "FFLLSSSSYY**CCWWLLLLPPPPHHQQRRRRIIMMTTTTNNKKSS**VVVVAAAADDEEGGGG";

        static boolean isBase(char sign) {
            return DIGITS.indexOf(sign) >= 0;
        }

        static char complement(char base) {
            switch (base) {
                case 'A':
                    return 'T';
                case 'C':
                    return 'G';
                case 'G':
                    return 'C';
                case 'T':
                    return 'A';
                default:
                    return base;
            }
        }

        // N has the digit 4: it may be any base, so it goes from 4 & 3, which is 0, to 3.
        static char letter(int code, char a, char b, char c) {
            String letters = code == 1 ? CODE_1 : CODE_2;
            int first = DIGITS.indexOf(a);
            int second = DIGITS.indexOf(b);
            int third = DIGITS.indexOf(c);
            char found = 0;
            for (int i = first & 3; i <= Math.min(first, 3); i++) {
                for (int j = second & 3; j <= Math.min(second, 3); j++) {
                    for (int k = third & 3; k <= Math.min(third, 3); k++) {
                        char letter = letters.charAt(16 * i + 4 * j + k);
                        if (found != 0 && found != letter) {
                            return 'X';
                        }
                        found = letter;
                    }
                }
            }
            return found;
        }
    }

    private static final class Feature {
        private int kind;
        private int start;
        private int end;
        private int strand;
        private int phase;
        /** Of ID, PARENT, NOTE: a byte for a sign, so that they compare as numbers; 0 is none. */
        private final long[] words;
        /** The line up to its attributes: only these may be written otherwise than they came. */
        private final Row head;

        Feature() {
            words = new long[ATTRIBUTES];
            head = new Row(MOST_SIGNS);
        }

        static String attribute(int which) {
            switch (which) {
                case ID:
                    return "ID=";
                case PARENT:
                    return "PARENT=";
                default:
                    return "NOTE=";
            }
        }

        void empty() {
            head.keep(0);
            for (int which = ID; which <= NOTE; which++) {
                words[which] = 0;
            }
        }

        int span() {
            return end - start + 1;
        }

        boolean hasDueAttributes() {
            if (kind == GENE) {
                return words[ID] != 0 && words[PARENT] == 0;
            }
            return words[PARENT] != 0;
        }

        boolean isWithin(Feature other) {
            return start >= other.start && end <= other.end;
        }

        boolean meets(Feature other) {
            return start <= other.end && other.start <= end;
        }

        void putInto(Row row) {
            row.putRow(head);
            boolean isFirst = true;
            for (int which = ID; which <= NOTE; which++) {
                if (words[which] != 0) {
                    if (!isFirst) {
                        row.put(';');
                    }
                    isFirst = false;
                    row.putText(attribute(which));
                    putWord(row, words[which]);
                }
            }
        }

        private static void putWord(Row row, long word) {
            for (int i = 0; i < MOST_WORD_SIGNS && signOf(word, i) != 0; i++) {
                row.put(signOf(word, i));
            }
        }
    }

    private static final class Line {
        private final Row row;
        private final int[] ends;

        Line() {
            row = new Row(MOST_SIGNS);
            ends = new int[COLUMNS];
        }

        // A draft that is left half read is in no book, so nothing has changed.
        boolean reads(Feature draft, int lastPlace) {
            draft.empty();
            if (!findColumns()) {
                return false;
            }
            draft.head.putBeginning(row, from(8));
            return from(0) < ends[0]
                    && isText(1, ".")
                    && readsKind(draft)
                    && readsPlaces(draft, lastPlace)
                    && isText(5, ".")
                    && readsStrand(draft)
                    && readsPhase(draft)
                    && readsAttributes(draft);
        }

        private boolean findColumns() {
            int found = 0;
            for (int i = 0; i < row.size(); i++) {
                if (row.sign(i) == TAB) {
                    if (found == COLUMNS - 1) {
                        return false;
                    }
                    ends[found] = i;
                    found++;
                }
            }
            ends[COLUMNS - 1] = row.size();
            return found == COLUMNS - 1;
        }

        private int from(int column) {
            return column == 0 ? 0 : ends[column - 1] + 1;
        }

        private boolean isText(int column, String text) {
            int from = from(column);
            return ends[column] - from == text.length() && row.hasAt(from, text);
        }

        private boolean readsKind(Feature draft) {
            if (isText(2, "gene")) {
                draft.kind = GENE;
            } else if (isText(2, "mRNA")) {
                draft.kind = MRNA;
            } else if (isText(2, "exon")) {
                draft.kind = EXON;
            } else if (isText(2, "CDS")) {
                draft.kind = CDS;
            } else {
                return false;
            }
            return true;
        }

        private boolean readsPlaces(Feature draft, int lastPlace) {
            draft.start = number(3);
            draft.end = number(4);
            return draft.start != NONE && draft.start <= draft.end && draft.end <= lastPlace;
        }

        private int number(int column) {
            int from = from(column);
            int digits = ends[column] - from;
            if (digits < 1 || digits > 3 || row.sign(from) == '0') {
                return NONE;
            }
            int number = 0;
            for (int i = from; i < ends[column]; i++) {
                if (!isDigit(row.sign(i))) {
                    return NONE;
                }
                number = 10 * number + (row.sign(i) - '0');
            }
            return number;
        }

        private boolean readsStrand(Feature draft) {
            if (isText(6, "+")) {
                draft.strand = PLUS;
                return true;
            }
            draft.strand = MINUS;
            return isText(6, "-");
        }

        private boolean readsPhase(Feature draft) {
            if (draft.kind != CDS) {
                draft.phase = NONE;
                return isText(7, ".");
            }
            draft.phase = row.sign(from(7)) - '0';
            return ends[7] - from(7) == 1 && draft.phase >= 0 && draft.phase <= 2;
        }

        private boolean readsAttributes(Feature draft) {
            int from = from(8);
            for (int i = from; i <= ends[8]; i++) {
                if (i == ends[8] || row.sign(i) == ';') {
                    if (!readsAttribute(draft, from, i)) {
                        return false;
                    }
                    from = i + 1;
                }
            }
            return true;
        }

        // A name that fits ends before to, since none has the ; in it that is there.
        private boolean readsAttribute(Feature draft, int from, int to) {
            for (int which = ID; which <= NOTE; which++) {
                String name = Feature.attribute(which);
                if (row.hasAt(from, name)) {
                    if (draft.words[which] != 0) {
                        return false;
                    }
                    draft.words[which] = word(from + name.length(), to);
                    return draft.words[which] != 0;
                }
            }
            return false;
        }

        private long word(int from, int to) {
            if (to - from < 1 || to - from > MOST_WORD_SIGNS) {
                return 0;
            }
            long word = 0;
            for (int i = to - 1; i >= from; i--) {
                char sign = row.sign(i);
                if (!isDigit(sign) && !isLetter(sign)) {
                    return 0;
                }
                word = word << 8 | sign;
            }
            return word;
        }

        private static boolean isDigit(char sign) {
            return sign >= '0' && sign <= '9';
        }

        private static boolean isLetter(char sign) {
            return sign >= 'a' && sign <= 'z' || sign >= 'A' && sign <= 'Z';
        }
    }

    private static final class Book {
        private static final int BY_STARTS = 0;
        private static final int BY_ENDS = 1;
        private static final int TO_WRITE = 2;

        /** One more than the book may have: the one behind the last feature is the draft. */
        private final Feature[] slots;
        private final int[] order;
        private int count;

        Book() {
            slots = new Feature[MOST_FEATURES + 1];
            for (int i = 0; i <= MOST_FEATURES; i++) {
                slots[i] = new Feature();
            }
            order = new int[MOST_FEATURES];
            count = 0;
        }

        int count() {
            return count;
        }

        boolean isFull() {
            return count == MOST_FEATURES;
        }

        boolean has(int k) {
            return k >= 0 && k < count;
        }

        Feature feature(int k) {
            return slots[k];
        }

        Feature ordered(int i) {
            return slots[order[i]];
        }

        Feature draft() {
            return slots[count];
        }

        int keepDraft() {
            count++;
            return count - 1;
        }

        void empty() {
            count = 0;
        }

        int numberOf(long id) {
            for (int k = 0; k < count && id != 0; k++) {
                if (slots[k].words[ID] == id) {
                    return k;
                }
            }
            return NONE;
        }

        int parentOf(int k) {
            return numberOf(slots[k].words[PARENT]);
        }

        int firstFault() {
            for (int k = 0; k < count; k++) {
                int fault = faultOf(k);
                if (fault != 0) {
                    return k + 16 * fault;
                }
            }
            return 0;
        }

        private int faultOf(int k) {
            Feature feature = slots[k];
            if (feature.kind == GENE) {
                return 0;
            }
            int parent = parentOf(k);
            if (parent == NONE) {
                return NO_PARENT;
            }
            if (slots[parent].kind != (feature.kind == MRNA ? GENE : MRNA)) {
                return WRONG_PARENT;
            }
            if (!feature.isWithin(slots[parent]) || feature.strand != slots[parent].strand) {
                return NOT_WITHIN;
            }
            if (feature.kind == MRNA) {
                return 0;
            }
            if (feature.kind == EXON) {
                return meetsSibling(k, parent) ? EXONS_MEET : 0;
            }
            if (!hasExonAround(k, parent)) {
                return NO_EXON_AROUND;
            }
            if (meetsSibling(k, parent)) {
                return CDSS_MEET;
            }
            return hasRightPhase(k, parent) ? 0 : WRONG_PHASE;
        }

        private boolean meetsSibling(int k, int parent) {
            for (int other = 0; other < count; other++) {
                if (other != k && isPart(other, parent, slots[k].kind)
                        && slots[k].meets(slots[other])) {
                    return true;
                }
            }
            return false;
        }

        private boolean hasExonAround(int k, int parent) {
            for (int exon = 0; exon < count; exon++) {
                if (isPart(exon, parent, EXON) && slots[k].isWithin(slots[exon])) {
                    return true;
                }
            }
            return false;
        }

        private boolean hasRightPhase(int k, int parent) {
            int parts = gatherParts(parent, CDS);
            for (int i = 1; i < parts; i++) {
                if (order[i] == k) {
                    return slots[k].phase == phaseBehind(ordered(i - 1));
                }
            }
            return true;
        }

        private static int phaseBehind(Feature before) {
            int span = before.span();
            if (span < before.phase) {
                return before.phase - span;
            }
            return (3 - (span - before.phase) % 3) % 3;
        }

        // Exons and CDSs always name a parent, so an mRNA without an ID has no parts.
        private boolean isPart(int k, int mrna, int kind) {
            return slots[k].kind == kind && slots[k].words[PARENT] == slots[mrna].words[ID];
        }

        /** Orders the parts of one kind of an mRNA, and answers how many there are. */
        int gatherParts(int mrna, int kind) {
            int rule = slots[mrna].strand == PLUS ? BY_STARTS : BY_ENDS;
            int found = 0;
            for (int k = 0; k < count; k++) {
                if (isPart(k, mrna, kind)) {
                    putInOrder(k, found, rule);
                    found++;
                }
            }
            return found;
        }

        /** Orders all features as they are written, and answers how many there are. */
        int gatherAll() {
            for (int k = 0; k < count; k++) {
                putInOrder(k, k, TO_WRITE);
            }
            return count;
        }

        // Those that no rule tells apart stay as they come, which is by their numbers.
        private void putInOrder(int k, int found, int rule) {
            int i = found;
            while (i > 0 && comesBefore(slots[k], ordered(i - 1), rule)) {
                order[i] = order[i - 1];
                i--;
            }
            order[i] = k;
        }

        private static boolean comesBefore(Feature a, Feature b, int rule) {
            if (rule == BY_STARTS) {
                return a.start < b.start;
            }
            if (rule == BY_ENDS) {
                return a.end > b.end;
            }
            if (a.start != b.start) {
                return a.start < b.start;
            }
            if (a.end != b.end) {
                return a.end > b.end;
            }
            return a.kind < b.kind;
        }
    }

    /**
     * The sequence on both strands. A spot is where an open frame may begin: first the bases, one
     * after the other, and behind them those of the complement, so that frames come in order.
     */
    private static final class Sequence {
        private final Row row;

        Sequence() {
            row = new Row(MOST_BASES);
        }

        char base(int strand, int i) {
            if (strand == PLUS) {
                return row.sign(i);
            }
            return Bases.complement(row.sign(row.size() - 1 - i));
        }

        int indexOfFirst(Feature feature) {
            return feature.strand == PLUS ? feature.start - 1 : row.size() - feature.end;
        }

        int countFrames(int code, int codons) {
            int least = Math.max(1, codons);
            int found = 0;
            for (int spot = 0; spot < 2 * row.size(); spot++) {
                if (codonsAt(code, spot) >= least) {
                    found++;
                }
            }
            return found;
        }

        int spotOfFrame(int code, int codons, int k) {
            int least = Math.max(1, codons);
            int found = 0;
            for (int spot = 0; spot < 2 * row.size(); spot++) {
                if (codonsAt(code, spot) >= least) {
                    if (found == k) {
                        return spot;
                    }
                    found++;
                }
            }
            return NONE;
        }

        int strandAt(int spot) {
            return spot < row.size() ? PLUS : MINUS;
        }

        int placeAt(int spot) {
            return spot < row.size() ? spot + 1 : 2 * row.size() - spot;
        }

        /** How many codons the open frame has that begins there; 0 when none does. */
        int codonsAt(int code, int spot) {
            int strand = strandAt(spot);
            int begin = spot - strand * row.size();
            if (!isStart(strand, begin) || hasStartBefore(code, strand, begin)) {
                return 0;
            }
            int codons = 1;
            for (int i = begin + 3; i + 3 <= row.size(); i += 3) {
                codons++;
                if (isStop(code, strand, i)) {
                    return codons;
                }
            }
            return 0;
        }

        private boolean hasStartBefore(int code, int strand, int begin) {
            for (int i = begin - 3; i >= 0 && !isStop(code, strand, i); i -= 3) {
                if (isStart(strand, i)) {
                    return true;
                }
            }
            return false;
        }

        private boolean isStart(int strand, int i) {
            return base(strand, i) == 'A'
                    && base(strand, i + 1) == 'T'
                    && base(strand, i + 2) == 'G';
        }

        private boolean isStop(int code, int strand, int i) {
            char second = base(strand, i + 1);
            char third = base(strand, i + 2);
            return Bases.letter(code, base(strand, i), second, third) == '*';
        }
    }
}
