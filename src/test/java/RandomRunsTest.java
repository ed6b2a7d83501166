import java.util.ArrayList;
import java.util.Collections;
import java.util.List;
import java.util.Map;
import java.util.Random;
import java.util.TreeMap;

/**
 * Runs of at most 512 calls on a new object and on a new model: every answer is the same. The seeds
 * are fixed, and what the runs came upon is counted, so that no part of the document is left out.
 */
public final class RandomRunsTest {
    private static final int RUNS = 1000;
    private static final int CALLS = 512;
    private static final String[] PIECES = {
        "ATG", "ATG", "CAT", "TAA", "TGA", "AGA", "TTA", "TCA", "TCT", "N", "A", "C", "G", "T", "ANG"};

    private final Random random;
    private final Answers answers;
    private final Map<String, Integer> met;
    private final GeneBook book = new GeneBook();
    private final Model model = new Model();
    private final int run;
    private int calls = 0;
    private int outLength = 0;

    private RandomRunsTest(int run, Answers answers, Map<String, Integer> met) {
        this.run = run;
        this.random = new Random(run);
        this.answers = answers;
        this.met = met;
    }

    public static void main(String[] args) {
        Answers answers = new Answers();
        Map<String, Integer> met = new TreeMap<>();
        for (int run = 0; run < RUNS && !answers.hasWrong(); run++) {
            new RandomRunsTest(run, answers, met).go();
        }
        for (String due : new String[] {
                "add IllegalArgumentException", "add IllegalStateException", "add NoSuchElementException",
                "add UnsupportedOperationException", "fault 0", "fault 1", "fault 2", "fault 3", "fault 4",
                "fault 5", "fault 6", "fault 7", "tell IndexOutOfBoundsException",
                "tell IllegalArgumentException", "tell IllegalStateException",
                "tell UnsupportedOperationException", "transcript", "protein", "frames", "frame",
                "frame IndexOutOfBoundsException", "frame IllegalArgumentException", "write"}) {
            answers.due("runs met often: " + due, true, met.getOrDefault(due, 0) >= 30);
        }
        answers.end();
    }

    private String same(String what, Answers.Call due, Answers.Call got) {
        calls++;
        String want = Answers.of(due);
        answers.due("run " + run + ", call " + calls + ", " + what, (Object) want, Answers.of(got));
        return want;
    }

    private void count(String what) {
        met.merge(what, 1, Integer::sum);
    }

    private boolean isNumber(String answer) {
        return Character.isDigit(answer.charAt(answer.length() - 1));
    }

    private int below(int n) {
        return random.nextInt(n);
    }

    private boolean oneIn(int n) {
        return below(n) == 0;
    }

    private void go() {
        while (calls < CALLS - 260) {
            fill();
            for (int i = 0; i < 60; i++) {
                ask();
            }
            if (oneIn(2)) {
                same("clear", () -> { model.clear(); return 0; }, () -> { book.clear(); return 0; });
            }
        }
        while (calls < CALLS - 20) {
            ask();
        }
    }

    private void fill() {
        giveBases();
        int room = model.length();
        if (room == 0) {
            return;
        }
        List<String> lines = new ArrayList<>();
        int genes = 1 + below(2);
        for (int g = 0; g < genes; g++) {
            addGene(lines, room, g);
        }
        if (oneIn(2)) {
            Collections.shuffle(lines, random);
        }
        for (String line : lines) {
            if (calls < CALLS - 80) {
                give(line);
            }
        }
    }

    private void giveBases() {
        StringBuilder text = new StringBuilder();
        int most = below(130);
        while (text.length() < most) {
            text.append(PIECES[below(PIECES.length)]);
        }
        for (int i = 0; i < text.length(); i += 8) {
            String piece = text.substring(i, Math.min(text.length(), i + 8));
            giveWord(true, oneIn(60) ? piece.replace('A', 'a') : piece);
        }
    }

    private void giveWord(boolean isBases, String piece) {
        long w = Texts.word(piece);
        int n = oneIn(300) ? below(20) - 5 : piece.length();
        if (isBases) {
            same("bases " + piece, () -> model.bases(w, n) ? 1 : 0, () -> book.bases(w, n) ? 1 : 0);
        } else {
            same("type " + piece, () -> model.type(w, n) ? 1 : 0, () -> book.type(w, n) ? 1 : 0);
        }
    }

    private void addGene(List<String> lines, int room, int g) {
        char strand = oneIn(2) ? '+' : '-';
        int start = 1 + below(Math.max(1, room / 3));
        int end = room - below(Math.max(1, room - start + 1) / 3 + 1);
        lines.add(line("gene", start, end, strand, ".", "ID=g" + g));
        int mrnas = 1 + below(2);
        for (int m = 0; m < mrnas; m++) {
            addMrna(lines, start, end, strand, g, m);
        }
    }

    private void addMrna(List<String> lines, int start, int end, char strand, int g, int m) {
        String id = "m" + g + m;
        lines.add(line("mRNA", start, end, strand, ".", attributes("ID=" + id, "PARENT=g" + g)));
        List<int[]> codes = new ArrayList<>();
        int from = start;
        int exons = below(4);
        for (int e = 0; e < exons && from <= end; e++) {
            int first = from + below(4);
            int last = first + below(25);
            if (last <= end) {
                lines.add(line("exon", first, last, strand, ".", attributes("PARENT=" + id)));
                int begin = first + below(Math.min(3, last - first + 1));
                if (!oneIn(4)) {
                    codes.add(new int[] {begin, begin + below(last - begin + 1)});
                }
            }
            from = last + 1 + (oneIn(12) ? -2 : below(3));
        }
        addCdss(lines, codes, strand, id);
    }

    private void addCdss(List<String> lines, List<int[]> codes, char strand, String id) {
        if (strand == '-') {
            Collections.reverse(codes);
        }
        int phase = below(3);
        for (int[] code : codes) {
            int told = oneIn(25) ? below(3) : phase;
            int last = oneIn(30) ? code[1] + 1 : code[1];
            lines.add(line("CDS", code[0], last, strand, "" + told, attributes("PARENT=" + id)));
            phase = Math.floorMod(phase - (code[1] - code[0] + 1), 3);
        }
    }

    private String attributes(String... some) {
        List<String> all = new ArrayList<>(List.of(some));
        if (oneIn(6)) {
            all.add("NOTE=n" + below(99));
        }
        Collections.shuffle(all, random);
        return String.join(";", all);
    }

    private String line(String kind, int start, int end, char strand, String phase, String attributes) {
        int first = oneIn(60) ? start + 1 : start;
        int last = oneIn(60) ? end + 1 : end;
        char side = oneIn(80) ? (char) ('+' + '-' - strand) : strand;
        String tail = oneIn(60) ? attributes.replaceAll("PARENT=m(.).", "PARENT=g$1") : attributes;
        tail = oneIn(80) ? tail.replace("0", "7") : tail;
        return String.join("\t", "c" + below(10), ".", kind, "" + first, "" + last, ".", "" + side, phase, tail);
    }

    private void give(String line) {
        String text = oneIn(12) ? spoilt(line) : line;
        for (int i = 0; i < text.length(); i += 8) {
            giveWord(false, text.substring(i, Math.min(text.length(), i + 8)));
        }
        String added = same("add " + text, model::add, book::add);
        if (!isNumber(added)) {
            count("add " + added);
            int n = oneIn(9) ? below(90) - 9 : 0;
            same("cut " + n, () -> model.cut(n) ? 1 : 0, () -> book.cut(n) ? 1 : 0);
            if (n != 0) {
                same("cut 0", () -> model.cut(0) ? 1 : 0, () -> book.cut(0) ? 1 : 0);
            }
        }
    }

    private String spoilt(String line) {
        int at = below(line.length());
        char sign = "\t.;=+-0129aZ ID".charAt(below(15));
        switch (below(4)) {
            case 0:
                return line.substring(0, at) + line.substring(at + 1);
            case 1:
                return line.substring(0, at) + sign + line.substring(at);
            case 2:
                return line.substring(0, at) + sign + line.substring(at + 1);
            default:
                return line.replaceAll("PARENT=\\w+;?", "").replaceAll(";$", "");
        }
    }

    private void ask() {
        switch (below(8)) {
            case 0:
                same("length", model::length, book::length);
                same("features", model::features, book::features);
                break;
            case 1:
                askAbout();
                break;
            case 2:
                String fault = same("fault", model::fault, book::fault);
                count("fault " + Integer.parseInt(fault) / 16);
                break;
            case 3:
                askTell();
                break;
            case 4:
                askFrames();
                break;
            case 5:
                askFrame();
                break;
            case 6:
                if (oneIn(4)) {
                    outLength = Integer.parseInt(same("write", model::write, book::write));
                    count("write");
                }
                break;
            default:
                int i = below(outLength + 3) - 1;
                same("out " + i, () -> model.out(i), () -> book.out(i));
        }
    }

    private void askAbout() {
        int k = below(16) - 1;
        int part = below(8) - 1;
        same("about " + k + " " + part, () -> model.about(k, part), () -> book.about(k, part));
    }

    private void askTell() {
        int k = below(model.features() + 2) - 1;
        int code = oneIn(12) ? below(6) - 2 : below(3);
        String told = same("tell " + k + " " + code, () -> model.tell(k, code), () -> book.tell(k, code));
        if (!isNumber(told)) {
            count("tell " + told);
            return;
        }
        count(code == 0 ? "transcript" : "protein");
        outLength = Integer.parseInt(told);
        for (int i = 0; i <= outLength && i < 6 && calls < CALLS - 20; i++) {
            int at = below(outLength + 1);
            same("out " + at, () -> model.out(at), () -> book.out(at));
        }
    }

    private void askFrames() {
        int code = oneIn(12) ? below(6) - 1 : 1 + below(2);
        int codons = below(9) - 1;
        String found = same("frames " + code + " " + codons, () -> model.frames(code, codons),
                () -> book.frames(code, codons));
        if (isNumber(found) && !found.equals("0")) {
            count("frames");
        }
    }

    private void askFrame() {
        int code = oneIn(12) ? below(6) - 1 : 1 + below(2);
        int codons = below(4);
        int k = below(5) - (oneIn(9) ? 1 : 0);
        int part = oneIn(12) ? below(6) - 1 : below(3);
        String found = same("frame " + code + " " + codons + " " + k + " " + part,
                () -> model.frame(code, codons, k, part), () -> book.frame(code, codons, k, part));
        count(isNumber(found) ? "frame" : "frame " + found);
    }
}
