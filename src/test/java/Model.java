import java.util.ArrayList;
import java.util.Comparator;
import java.util.HashMap;
import java.util.List;
import java.util.Map;
import java.util.NoSuchElementException;
import java.util.Set;
import java.util.TreeSet;
import java.util.regex.Matcher;
import java.util.regex.Pattern;
import java.util.stream.Collectors;
import java.util.stream.IntStream;

/** The document once more, with the Java library and by definitions, to compare answers with. */
final class Model {
    private static final Pattern LINE = Pattern.compile(
            "([^\t]+)\t\\.\t(gene|mRNA|exon|CDS)\t([1-9][0-9]{0,2})\t([1-9][0-9]{0,2})\t\\.\t([+-])\t"
            + "([012.])\t([^\t]*)");
    private static final Pattern ATTRIBUTE = Pattern.compile("(ID|PARENT|NOTE)=([a-zA-Z0-9]{1,6})");
    private static final List<String> KINDS = List.of("gene", "mRNA", "exon", "CDS");
    private static final String[] LETTERS = {
        "",
        "FFLLSSSSYY**CC*WLLLLPPPPHHQQRRRRIIIMTTTTNNKKSSRRVVVVAAAADDEEGGGG",
        "FFLLSSSSYY**CCWWLLLLPPPPHHQQRRRRIIMMTTTTNNKKSS**VVVVAAAADDEEGGGG"};

    private static final Map<String, Character> KNOWN = new HashMap<>();

    private static final class Item {
        private int number;
        private String name;
        private String kind;
        private int start;
        private int end;
        private char strand;
        private String phase;
        private String id;
        private String parent;
        private String note;

        private Set<Integer> places() {
            return IntStream.rangeClosed(start, end).boxed().collect(Collectors.toCollection(TreeSet::new));
        }

        private boolean sharesPlaces(Item other) {
            return places().stream().anyMatch(other.places()::contains);
        }
    }

    private String sequence = "";
    private String line = "";
    private String out = "";
    private final List<Item> items = new ArrayList<>();

    private static String textOf(long w, int n) {
        StringBuilder text = new StringBuilder();
        for (int i = 0; i < n; i++) {
            text.append((char) (w & 255));
            w >>>= 8;
        }
        return text.toString();
    }

    boolean bases(long w, int n) {
        if (n < 1 || n > 8 || sequence.length() + n > 120 || !textOf(w, n).matches("[ACGTN]+")) {
            return false;
        }
        sequence += textOf(w, n);
        return true;
    }

    boolean type(long w, int n) {
        if (n < 1 || n > 8 || line.length() + n > 72 || !textOf(w, n).matches("[\t -~]+")) {
            return false;
        }
        line += textOf(w, n);
        return true;
    }

    boolean cut(int n) {
        if (n < 0 || n > line.length()) {
            return false;
        }
        line = line.substring(0, n);
        return true;
    }

    void clear() {
        sequence = "";
        line = "";
        items.clear();
    }

    int length() {
        return sequence.length();
    }

    private Item parse() {
        Matcher matcher = LINE.matcher(line);
        if (!matcher.matches()) {
            return null;
        }
        Item item = new Item();
        item.name = matcher.group(1);
        item.kind = matcher.group(2);
        item.start = Integer.parseInt(matcher.group(3));
        item.end = Integer.parseInt(matcher.group(4));
        item.strand = matcher.group(5).charAt(0);
        item.phase = matcher.group(6);
        if (item.start > item.end || item.end > sequence.length()
                || item.kind.equals("CDS") == item.phase.equals(".")) {
            return null;
        }
        for (String attribute : matcher.group(7).split(";", -1)) {
            Matcher parts = ATTRIBUTE.matcher(attribute);
            if (!parts.matches() || !take(item, parts.group(1), parts.group(2))) {
                return null;
            }
        }
        return item;
    }

    private static boolean take(Item item, String name, String word) {
        String before;
        if (name.equals("ID")) {
            before = item.id;
            item.id = word;
        } else if (name.equals("PARENT")) {
            before = item.parent;
            item.parent = word;
        } else {
            before = item.note;
            item.note = word;
        }
        return before == null;
    }

    int add() {
        Item item = parse();
        if (item == null) {
            throw new IllegalArgumentException();
        }
        boolean isGene = item.kind.equals("gene");
        if (isGene && item.id == null || isGene == (item.parent != null)) {
            throw new IllegalStateException();
        }
        if (item.id != null && items.stream().anyMatch(other -> item.id.equals(other.id))) {
            throw new NoSuchElementException();
        }
        if (items.size() >= 14) {
            throw new UnsupportedOperationException();
        }
        item.number = items.size();
        items.add(item);
        line = "";
        return item.number;
    }

    int features() {
        return items.size();
    }

    private Item parentOf(Item item) {
        return items.stream().filter(p -> item.parent != null && item.parent.equals(p.id)).findFirst().orElse(null);
    }

    int about(int k, int part) {
        if (k < 0 || k >= items.size() || part < 0 || part > 5) {
            throw new IndexOutOfBoundsException();
        }
        Item item = items.get(k);
        Item parent = parentOf(item);
        return new int[] {KINDS.indexOf(item.kind), item.start, item.end, item.strand == '+' ? 0 : 1,
            item.phase.equals(".") ? -1 : Integer.parseInt(item.phase), parent == null ? -1 : parent.number}[part];
    }

    int fault() {
        for (Item item : items) {
            int fault = faultOf(item);
            if (fault != 0) {
                return item.number + 16 * fault;
            }
        }
        return 0;
    }

    private List<Item> parts(Item mrna, String kind) {
        Comparator<Item> order = mrna.strand == '+'
                ? Comparator.comparingInt(item -> item.start)
                : Comparator.comparingInt(item -> -item.end);
        return items.stream()
                .filter(item -> item.kind.equals(kind) && parentOf(item) == mrna)
                .sorted(order.thenComparingInt(item -> item.number))
                .collect(Collectors.toList());
    }

    private int faultOf(Item item) {
        if (item.kind.equals("gene")) {
            return 0;
        }
        Item parent = parentOf(item);
        if (parent == null) {
            return 1;
        }
        if (!parent.kind.equals(item.kind.equals("mRNA") ? "gene" : "mRNA")) {
            return 2;
        }
        if (!parent.places().containsAll(item.places()) || item.strand != parent.strand) {
            return 3;
        }
        List<Item> siblings = parts(parent, item.kind);
        boolean shares = siblings.stream().anyMatch(other -> other != item && other.sharesPlaces(item));
        if (item.kind.equals("exon") && shares) {
            return 4;
        }
        if (!item.kind.equals("CDS")) {
            return 0;
        }
        if (parts(parent, "exon").stream().noneMatch(exon -> exon.places().containsAll(item.places()))) {
            return 5;
        }
        if (shares) {
            return 6;
        }
        int at = siblings.indexOf(item);
        return at > 0 && Integer.parseInt(item.phase) != rightPhase(siblings.get(at - 1)) ? 7 : 0;
    }

    // So many bases of a codon are missing behind the one before.
    private static int rightPhase(Item before) {
        int left = before.end - before.start + 1 - Integer.parseInt(before.phase);
        return Math.floorMod(-left, 3);
    }

    private static String complement(String bases) {
        StringBuilder turned = new StringBuilder();
        for (char base : bases.toCharArray()) {
            turned.append("TGCAN".charAt("ACGTN".indexOf(base)));
        }
        return turned.reverse().toString();
    }

    private static char letter(int code, String codon) {
        return KNOWN.computeIfAbsent(code + codon, key -> letterByCodons(code, codon));
    }

    private static char letterByCodons(int code, String codon) {
        Set<Character> letters = new TreeSet<>();
        for (int k = 0; k < 64; k++) {
            String sure = "" + "TCAG".charAt(k / 16) + "TCAG".charAt(k / 4 % 4) + "TCAG".charAt(k % 4);
            if (sure.matches(codon.replace('N', '.'))) {
                letters.add(LETTERS[code].charAt(k));
            }
        }
        return letters.size() == 1 ? letters.iterator().next() : 'X';
    }

    int tell(int k, int code) {
        if (k < 0 || k >= items.size() || code < 0 || code > 2) {
            throw new IndexOutOfBoundsException();
        }
        Item mrna = items.get(k);
        if (!mrna.kind.equals("mRNA")) {
            throw new IllegalArgumentException();
        }
        if (fault() != 0) {
            throw new IllegalStateException();
        }
        List<Item> parts = parts(mrna, code == 0 ? "exon" : "CDS");
        if (parts.isEmpty()) {
            throw new UnsupportedOperationException();
        }
        String text = "";
        for (Item part : parts) {
            String bases = sequence.substring(part.start - 1, part.end);
            text += mrna.strand == '+' ? bases : complement(bases);
        }
        out = code == 0 ? text : protein(code, text, Integer.parseInt(parts.get(0).phase));
        return out.length();
    }

    private static String protein(int code, String text, int phase) {
        String rest = text.substring(Math.min(text.length(), phase));
        String letters = "";
        while (rest.length() >= 3) {
            letters += letter(code, rest.substring(0, 3));
            rest = rest.substring(3);
        }
        return letters;
    }

    /** Tries every beginning with every length, by the words of the document. */
    private static void findFrames(String row, int code, int strand, List<int[]> found) {
        char[] letters = new char[Math.max(0, row.length() - 2)];
        for (int i = 0; i < letters.length; i++) {
            letters[i] = letter(code, row.substring(i, i + 3));
        }
        for (int begin = 0; begin < letters.length; begin++) {
            for (int codons = 1; begin + 3 * codons <= row.length(); codons++) {
                if (isOpenFrame(row, letters, begin, codons)) {
                    found.add(new int[] {codons, strand == 0 ? begin + 1 : row.length() - begin, strand});
                }
            }
        }
    }

    private static boolean isOpenFrame(String row, char[] letters, int begin, int codons) {
        if (!row.startsWith("ATG", begin)) {
            return false;
        }
        for (int c = 0; c < codons; c++) {
            if ((letters[begin + 3 * c] == '*') != (c == codons - 1)) {
                return false;
            }
        }
        int i = begin - 3;
        while (i >= 0 && letters[i] != '*') {
            if (row.startsWith("ATG", i)) {
                return false;
            }
            i -= 3;
        }
        return true;
    }

    private List<int[]> framesOf(int code, int codons) {
        if (code < 1 || code > 2) {
            throw new IllegalArgumentException();
        }
        List<int[]> found = new ArrayList<>();
        findFrames(sequence, code, 0, found);
        findFrames(complement(sequence), code, 1, found);
        found.removeIf(frame -> frame[0] < codons);
        return found;
    }

    int frames(int code, int codons) {
        return framesOf(code, codons).size();
    }

    int frame(int code, int codons, int k, int part) {
        List<int[]> found = framesOf(code, codons);
        if (k < 0 || k >= found.size() || part < 0 || part > 2) {
            throw new IndexOutOfBoundsException();
        }
        return found.get(k)[part];
    }

    int write() {
        List<Item> sorted = new ArrayList<>(items);
        sorted.sort(Comparator.<Item>comparingInt(item -> item.start)
                .thenComparingInt(item -> -item.end)
                .thenComparingInt(item -> KINDS.indexOf(item.kind))
                .thenComparingInt(item -> item.number));
        out = sorted.stream().map(Model::written).collect(Collectors.joining());
        return out.length();
    }

    private static String written(Item item) {
        List<String> attributes = new ArrayList<>();
        if (item.id != null) {
            attributes.add("ID=" + item.id);
        }
        if (item.parent != null) {
            attributes.add("PARENT=" + item.parent);
        }
        if (item.note != null) {
            attributes.add("NOTE=" + item.note);
        }
        return String.join("\t", item.name, ".", item.kind, "" + item.start, "" + item.end, ".",
                "" + item.strand, item.phase, String.join(";", attributes)) + "\n";
    }

    int out(int i) {
        return i >= 0 && i < out.length() ? out.charAt(i) : 0;
    }
}
