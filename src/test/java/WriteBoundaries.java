import java.util.ArrayList;
import java.util.Arrays;
import java.util.Collections;
import java.util.List;
import java.util.Random;

/** Promises 14 and 15, and the terms of writing. */
final class WriteBoundaries {
    private final Clauses c;

    WriteBoundaries(Clauses clauses) {
        c = clauses;
    }

    void test() {
        c.section("Terms");
        c.clause("TO WRITE the book is to put into OUT for each feature, in order, its line", this::linesAsTheyCame);
        c.clause("with the attributes in the order ID, PARENT, NOTE", this::orderOfAttributes);
        c.clause("and 10 behind it", this::tenBehind);
        c.clause("The order is by start", this::byStart);
        c.clause("then by the greater end", this::byGreaterEnd);
        c.clause("then by kind (gene, mRNA, exon, CDS)", this::byKind);
        c.clause("then by number", this::byNumber);
        c.section("Promise 14: write");
        c.clause("WRITES the book", this::writesTheBook);
        c.clause("the length of OUT", this::lengthOfOut);
        c.section("Promise 15: out");
        c.clause("Character i of OUT", this::characters);
        c.clause("0 when there is none", this::noCharacter);
    }

    /** The lines come in the order given and are written in the order due. */
    private void written(String[] lines, String... want) {
        Run x = Run.on(Run.some(120), lines);
        StringBuilder text = new StringBuilder();
        for (String line : want) {
            text.append(Texts.tabs(line)).append('\n');
        }
        c.due(text.length(), x.write());
        c.text("OUT", text.toString(), x.outText());
    }

    /** In whatever order these come, they are written in this one. */
    private void always(String... want) {
        written(want, want);
        List<String> lines = new ArrayList<>(List.of(want));
        Collections.reverse(lines);
        written(lines.toArray(new String[0]), want);
        Random random = new Random(1);
        for (int i = 0; i < 5; i++) {
            Collections.shuffle(lines, random);
            written(lines.toArray(new String[0]), want);
        }
    }

    private static String gene(int start, int end, String id) {
        return "c . gene " + start + " " + end + " . + . ID=" + id;
    }

    private void linesAsTheyCame() {
        for (String line : new String[] {
                "c . gene 1 1 . + . ID=g", "x.y;z=1 . gene 1 120 . - . ID=abcdef;NOTE=aZ09zA",
                "~ . mRNA 9 10 . + . PARENT=p",
                "! . exon 99 100 . - . PARENT=p;NOTE=n", "c . CDS 120 120 . + 0 ID=c;PARENT=p;NOTE=n",
                "c . CDS 5 6 . - 1 PARENT=p", "c . CDS 5 6 . - 2 ID=c;PARENT=p"}) {
            written(new String[] {line}, line);
        }
        Run x = Run.on("ACGT");
        x.put(" a  b " + Texts.tabs(" . gene 1 4 . + . ID=g"));
        x.write();
        c.text("a name with blanks", " a  b " + Texts.tabs(" . gene 1 4 . + . ID=g\n"), x.outText());
        // Of lines that were refused, or cut, nothing is written.
        Run y = Run.on("ACGT");
        y.line(Texts.tabs("longer . gene 1 4 . + . ID=g;NOTE=n;"));
        y.add();
        y.cut(0);
        y.line(Texts.tabs("longer . gene 1 4 . + . NOTE=n"));
        y.add();
        y.cut(0);
        y.line(Texts.tabs("c . gene 1 2 . + . ID=hxx"));
        y.cut(y.lineLength() - 2);
        y.add();
        y.line(Texts.tabs("not . added 1 2"));
        y.write();
        c.text("the one feature", Texts.tabs("c . gene 1 2 . + . ID=h\n"), y.outText());
    }

    private void orderOfAttributes() {
        String[][] tails = {
            {"ID=i;PARENT=p;NOTE=n", "ID=i;PARENT=p;NOTE=n"}, {"ID=i;NOTE=n;PARENT=p", "ID=i;PARENT=p;NOTE=n"},
            {"PARENT=p;ID=i;NOTE=n", "ID=i;PARENT=p;NOTE=n"}, {"PARENT=p;NOTE=n;ID=i", "ID=i;PARENT=p;NOTE=n"},
            {"NOTE=n;ID=i;PARENT=p", "ID=i;PARENT=p;NOTE=n"}, {"NOTE=n;PARENT=p;ID=i", "ID=i;PARENT=p;NOTE=n"},
            {"PARENT=p", "PARENT=p"}, {"ID=i;PARENT=p", "ID=i;PARENT=p"}, {"PARENT=p;ID=i", "ID=i;PARENT=p"},
            {"PARENT=p;NOTE=n", "PARENT=p;NOTE=n"}, {"NOTE=n;PARENT=p", "PARENT=p;NOTE=n"},
            {"NOTE=zzzzzz;PARENT=000000;ID=AAAAAA", "ID=AAAAAA;PARENT=000000;NOTE=zzzzzz"}};
        for (String[] tail : tails) {
            written(new String[] {"c . exon 1 2 . + . " + tail[0]}, "c . exon 1 2 . + . " + tail[1]);
        }
        written(new String[] {"c . gene 1 2 . + . NOTE=n;ID=i"}, "c . gene 1 2 . + . ID=i;NOTE=n");
        written(new String[] {"c . gene 1 2 . + . ID=i;NOTE=n"}, "c . gene 1 2 . + . ID=i;NOTE=n");
    }

    private void tenBehind() {
        Run x = Run.on("ACGT", gene(1, 4, "g"), gene(1, 4, "h"));
        int line = gene(1, 4, "g").length();
        c.due(2 * line + 2, x.write());
        c.due('g' + 0, x.out(line - 1));
        c.due(10, x.out(line));
        c.due('c' + 0, x.out(line + 1));
        c.due(10, x.out(2 * line + 1));
        c.due(0, x.out(2 * line + 2));
    }

    private void byStart() {
        always(gene(1, 1, "a"), gene(2, 9, "b"), gene(3, 100, "c"), gene(10, 11, "d"), gene(20, 120, "e"),
                gene(100, 100, "f"), gene(119, 120, "g"), gene(120, 120, "h"));
        // The start comes before the end and the kind.
        always("c . CDS 1 1 . + 0 PARENT=m", gene(2, 120, "g"), "c . exon 3 4 . - . PARENT=m",
                "c . mRNA 4 120 . + . PARENT=g");
    }

    private void byGreaterEnd() {
        always(gene(5, 120, "a"), gene(5, 119, "b"), gene(5, 100, "c"), gene(5, 99, "d"), gene(5, 20, "e"),
                gene(5, 10, "f"), gene(5, 9, "g"), gene(5, 5, "h"));
        // The end comes before the kind.
        always("c . CDS 5 9 . + 0 PARENT=m", "c . exon 5 8 . + . PARENT=m", "c . mRNA 5 7 . + . PARENT=g",
                gene(5, 6, "g"));
    }

    private void byKind() {
        always(gene(5, 9, "g"), "c . mRNA 5 9 . + . PARENT=g", "c . exon 5 9 . + . PARENT=m",
                "c . CDS 5 9 . + 0 PARENT=m");
        always(gene(5, 9, "z"), "c . mRNA 5 9 . - . ID=y;PARENT=g", "b . exon 5 9 . + . ID=x;PARENT=m",
                "a . CDS 5 9 . - 2 ID=w;PARENT=m");
    }

    /** Nothing else tells them apart: not the name, the strand, the phase or the attributes. */
    private void byNumber() {
        String[] some = {
            "c . CDS 5 9 . + 1 PARENT=m;ID=z", "b . CDS 5 9 . - 0 PARENT=m;ID=y", "a . CDS 5 9 . - 2 PARENT=l;ID=x",
            "d . CDS 5 9 . + 0 PARENT=n;ID=a", "c . CDS 5 9 . + 1 PARENT=m"};
        String[] due = {
            "c . CDS 5 9 . + 1 ID=z;PARENT=m", "b . CDS 5 9 . - 0 ID=y;PARENT=m", "a . CDS 5 9 . - 2 ID=x;PARENT=l",
            "d . CDS 5 9 . + 0 ID=a;PARENT=n", "c . CDS 5 9 . + 1 PARENT=m"};
        for (int turn = 0; turn < some.length; turn++) {
            Collections.rotate(Arrays.asList(some), 1);
            Collections.rotate(Arrays.asList(due), 1);
            written(some, due);
        }
        String[] genes = new String[14];
        for (int i = 0; i < 14; i++) {
            genes[i] = gene(5, 9, "g" + i * 5 % 14);
        }
        written(genes, genes);
        String[] mixed = {
            "c . exon 5 9 . + . PARENT=b", gene(5, 9, "b"), "c . exon 5 9 . + . PARENT=a", gene(5, 9, "a")};
        written(mixed, gene(5, 9, "b"), gene(5, 9, "a"), "c . exon 5 9 . + . PARENT=b", "c . exon 5 9 . + . PARENT=a");
    }

    private void writesTheBook() {
        Run x = Run.on("ACGT", gene(1, 4, "g"));
        String before = x.written();
        c.due(before.length(), x.write());
        c.text("the same again", before, x.written());
        c.due(1, x.features());
        c.due(1, x.about(0, 1));
        x.put(Texts.tabs("c . exon 1 1 . - . PARENT=x"));
        // A book that is not whole is written, too; and OUT has nothing of before.
        c.due(16 + 1, x.fault());
        c.due(2 * before.length() + 4, x.write());
        c.text("OUT", before + Texts.tabs("c . exon 1 1 . - . PARENT=x\n"), x.outText());
        x.clear();
        c.due(0, x.write());
        c.text("OUT", "", x.outText());
        c.due(0, new Run().write());
        // The line stays as it is.
        x.line("abc");
        x.write();
        c.text("the line", "3", String.valueOf(x.lineLength()));
    }

    private void lengthOfOut() {
        c.due(0, new Run().write());
        c.due(24, Run.on("ACGT", gene(1, 4, "g")).write());
        Run x = Run.on(Run.some(120));
        StringBuilder all = new StringBuilder();
        for (int i = 0; i < 14; i++) {
            String tail = Texts.tabs(" . mRNA 100 120 . + . ID=abcd" + (10 + i) + ";PARENT=abcdef;NOTE=uvwxyz");
            String line = "~".repeat(72 - tail.length()) + tail;
            x.put(line);
            all.append(line).append('\n');
            c.due(73 * (i + 1), x.write());
        }
        c.text("the longest OUT", all.toString(), x.outText());
        c.due(10, x.out(1021));
        c.due(0, x.out(1022));
    }

    private void characters() {
        Run x = Run.on("ACGT", gene(1, 4, "g"));
        String text = Texts.tabs(gene(1, 4, "g")) + "\n";
        x.write();
        for (int i = 0; i < text.length(); i++) {
            c.due((int) text.charAt(i), x.out(i));
        }
        // It is there until write or tell puts something else there.
        x.line("abc");
        x.cut(0);
        x.give("ACGT");
        x.put(Texts.tabs("c . mRNA 1 4 . + . ID=m;PARENT=g"));
        x.fault();
        x.frames(1, 0);
        x.tell(1, 0);
        c.text("OUT", text, x.outText());
        x.put(Texts.tabs("c . exon 1 4 . + . PARENT=m"));
        c.text("OUT", text, x.outText());
        x.tell(1, 0);
        c.text("OUT", "ACGT", x.outText());
        x.clear();
        c.text("OUT", "ACGT", x.outText());
    }

    private void noCharacter() {
        Run x = Run.on("ACGT", gene(1, 4, "g"));
        for (int i : new int[] {-1, 0, 1, 1021, 1022, Integer.MIN_VALUE, Integer.MAX_VALUE}) {
            c.due(0, x.out(i));
        }
        x.write();
        for (int i : new int[] {
                -1, -2, -24, 24, 25, 72, 256, 1021, 1022, 1023, 65536, Integer.MIN_VALUE, Integer.MAX_VALUE}) {
            c.due(0, x.out(i));
        }
        c.due('c' + 0, x.out(0));
        c.due(10, x.out(23));
        // A shorter OUT has nothing of a longer one behind it.
        x.put(Texts.tabs("c . mRNA 1 4 . + . ID=m;PARENT=g"));
        x.put(Texts.tabs("c . exon 2 3 . + . PARENT=m"));
        x.write();
        x.tell(1, 0);
        c.due('G' + 0, x.out(1));
        for (int i = 2; i < 90; i += 3) {
            c.due(0, x.out(i));
        }
    }
}
