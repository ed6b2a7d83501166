import java.util.ArrayList;
import java.util.List;

/** What a FEATURE is, column by column: promise 7's first exception, and the terms of the line. */
final class FeatureBoundaries {
    private static final String IAE = "IllegalArgumentException";
    private static final String[] ATTRIBUTES = {"ID=", "PARENT=", "NOTE="};

    private final Clauses c;

    FeatureBoundaries(Clauses clauses) {
        c = clauses;
    }

    void test() {
        c.section("Terms");
        c.clause("It is a FEATURE, if it is nine COLUMNS with 9 between two", this::nineColumns);
        c.clause("a name (any characters, one at least, but no 9)", this::names);
        c.clause("but no 9); . ; a KIND", () -> onlyADot(1));
        c.clause("a KIND: gene, mRNA, exon or CDS", this::kinds);
        c.clause("a START and an END, numbers from 1 to 999", this::numbers);
        c.clause("(digits, the first one not 0)", this::digits);
        c.clause("the end not less than the start", this::endNotLess);
        c.clause("and not more than the sequence is long", this::endWithinTheSequence);
        c.clause("the sequence is long; . ; a STRAND", () -> onlyADot(5));
        c.clause("a STRAND, + or -", this::strands);
        c.clause("a PHASE: 0, 1 or 2 for a CDS", this::phasesOfCdss);
        c.clause("and . for others", this::phasesOfOthers);
        c.clause("and ATTRIBUTES: one, or more with ; between two", this::attributes);
        c.clause("each once at most", this::eachOnce);
        c.clause("ID=, PARENT= and NOTE=", this::attributeNames);
        c.clause("each with a WORD behind: one to six", this::lengthsOfWords);
        c.clause("letters (a .. z, A .. Z) or digits", this::signsOfWords);
        c.clause("The length of a feature is end - start + 1.", this::lengths);
        c.section("Promise 7: add");
        c.clause("IllegalArgumentException when it is no FEATURE", this::noFeature);
    }

    private void taken(String line) {
        takenOn(120, line);
    }

    private void refused(String line) {
        refusedOn(120, line);
    }

    private void takenOn(int bases, String line) {
        Run x = Run.on(Run.some(bases));
        x.line(line);
        c.due(0, x.add());
        c.due(1, x.features());
        c.due(false, x.cut(1));
        c.text("it is written again", line + "\n", x.written());
    }

    private void refusedOn(int bases, String line) {
        Run x = Run.on(Run.some(bases));
        x.line(line);
        c.refused(IAE, x, Run::add);
    }

    /** The columns of a feature of a kind, one of them another one. */
    private static String with(String kind, int column, String text) {
        String phase = kind.equals("CDS") ? "0" : ".";
        String attribute = kind.equals("gene") ? "ID=g" : "PARENT=g";
        String[] columns = {"c", ".", kind, "5", "9", ".", "+", phase, attribute};
        columns[column] = text;
        return String.join("\t", columns);
    }

    private static String gene(int column, String text) {
        return with("gene", column, text);
    }

    private static String placed(Object start, Object end) {
        return String.join("\t", "c", ".", "gene", "" + start, "" + end, ".", "+", ".", "ID=g");
    }

    private void nineColumns() {
        String[] columns = gene(0, "c").split("\t");
        for (int n = 0; n < 9; n++) {
            refused(String.join("\t", List.of(columns).subList(0, n)));
            List<String> fewer = new ArrayList<>(List.of(columns));
            fewer.remove(n);
            refused(String.join("\t", fewer));
        }
        taken(String.join("\t", columns));
        for (int n = 0; n <= 9; n++) {
            for (String extra : new String[] {"", "x", "."}) {
                List<String> more = new ArrayList<>(List.of(columns));
                more.add(n, extra);
                refused(String.join("\t", more));
            }
        }
        refused(String.join(" ", columns));
        refused(gene(0, "c").replaceFirst("\t", " "));
        refused("\t".repeat(8));
        refused("\t".repeat(9));
        refused("\t".repeat(72));
    }

    private void names() {
        for (char sign = 32; sign <= 126; sign++) {
            taken(gene(0, String.valueOf(sign)));
        }
        taken(gene(0, "a b"));
        taken(gene(0, "ID=x;PARENT=y"));
        taken(gene(0, "~".repeat(73 - gene(0, "c").length())));
        refused(gene(0, ""));
    }

    private void onlyADot(int column) {
        for (String kind : new String[] {"gene", "mRNA", "exon", "CDS"}) {
            taken(with(kind, column, "."));
            for (String wrong : new String[] {"", "..", " ", " .", ". ", ",", "/", "-", "0", "x"}) {
                refused(with(kind, column, wrong));
            }
        }
    }

    private void kinds() {
        for (String kind : new String[] {"gene", "mRNA", "exon", "CDS"}) {
            taken(with(kind, 0, "c"));
            for (String wrong : new String[] {
                    kind + " ", " " + kind, kind + "s", kind.substring(1), kind + kind, "x" + kind.substring(1),
                    kind.substring(0, kind.length() - 1), kind.substring(0, kind.length() - 1) + "x"}) {
                refused(with(kind, 2, wrong));
            }
        }
        for (String wrong : new String[] {"", ".", "Gene", "GENE", "genE", "MRNA", "mrna", "Exon", "EXON", "0"}) {
            refused(gene(2, wrong));
        }
        refused(with("CDS", 2, "cds"));
        refused(with("CDS", 2, "Cds"));
    }

    private void numbers() {
        for (int n : new int[] {1, 2, 9, 10, 11, 99, 100, 101, 119, 120}) {
            taken(placed(n, n));
        }
        for (String wrong : new String[] {
                "0", "1000", "1001", "9999", "10000", "2147483647", "2147483648", "4294967297", "4294967301",
                "18446744073709551617"}) {
            refused(placed(wrong, 9));
            refused(placed(5, wrong));
            refused(placed(wrong, wrong));
        }
        // Numbers up to 999 may be read, but no sequence is so long.
        refused(placed(5, 999));
        refused(placed(999, 999));
    }

    private void digits() {
        for (String wrong : new String[] {
                "", "00", "01", "05", "005", "000", "05 ", "+5", "-5", " 5", "5 ", "5.", "5a", "a5", "a", "0x5",
                "/", ":", "5/", "5:", "/5", ":5", "5/5", "5:5", ".", "5,5"}) {
            refused(placed(wrong, 9));
            refused(placed(wrong, 120));
        }
        for (String wrong : new String[] {
                "", "0", "00", "09", "009", "+9", "-9", " 9", "9 ", "9.", "9a", "a9", "a", "9/", "9:", "/9", ":9",
                "1/0", "1:0", "1.0", "1 0", "."}) {
            refused(gene(4, wrong));
        }
    }

    private void endNotLess() {
        int[][] some = {{1, 1}, {5, 5}, {9, 10}, {10, 9}, {5, 4}, {2, 1}, {99, 100}, {100, 99}, {2, 10}, {10, 2},
            {120, 120}, {120, 119}, {119, 120}, {120, 1}, {1, 120}, {20, 100}, {100, 20}};
        for (int[] places : some) {
            if (places[1] >= places[0]) {
                taken(placed(places[0], places[1]));
            } else {
                refused(placed(places[0], places[1]));
            }
        }
    }

    private void endWithinTheSequence() {
        for (int bases : new int[] {1, 2, 9, 10, 11, 99, 100, 119, 120}) {
            takenOn(bases, placed(1, bases));
            takenOn(bases, placed(bases, bases));
            refusedOn(bases, placed(1, bases + 1));
            refusedOn(bases, placed(bases, bases + 1));
            refusedOn(bases, placed(bases + 1, bases + 1));
        }
        refusedOn(0, placed(1, 1));
        refusedOn(0, placed(0, 0));
        Run x = Run.on(Run.some(9));
        x.line(placed(1, 10));
        c.refused(IAE, x, Run::add);
        x.give("A");
        c.due(0, x.add());
    }

    private void strands() {
        for (String kind : new String[] {"gene", "mRNA", "exon", "CDS"}) {
            taken(with(kind, 6, "+"));
            taken(with(kind, 6, "-"));
            for (String wrong : new String[] {"", ".", "++", "--", "+-", "-+", "+ ", " -", ",", "*", "?", "0", "1"}) {
                refused(with(kind, 6, wrong));
            }
        }
    }

    private void phasesOfCdss() {
        for (String phase : new String[] {"0", "1", "2"}) {
            taken(with("CDS", 7, phase));
        }
        for (String wrong : new String[] {
                "", ".", "3", "9", "/", "00", "01", "10", "-1", "+1", " 0", "0 ", "0.", "a", "11", "22", "1.", "2:"}) {
            refused(with("CDS", 7, wrong));
        }
    }

    private void phasesOfOthers() {
        for (String kind : new String[] {"gene", "mRNA", "exon"}) {
            taken(with(kind, 7, "."));
            for (String wrong : new String[] {"", "0", "1", "2", "3", "..", " ", ". ", " .", "-", "/"}) {
                refused(with(kind, 7, wrong));
            }
        }
    }

    /** Every row of the three attributes, each once at most: 15 of them. */
    private static List<List<String>> arrangements() {
        List<List<String>> all = new ArrayList<>();
        List<List<String>> last = List.of(List.of());
        for (int size = 1; size <= 3; size++) {
            List<List<String>> next = new ArrayList<>();
            for (List<String> shorter : last) {
                for (String attribute : ATTRIBUTES) {
                    if (!shorter.contains(attribute + "g")) {
                        List<String> longer = new ArrayList<>(shorter);
                        longer.add(attribute + "g");
                        next.add(longer);
                    }
                }
            }
            all.addAll(next);
            last = next;
        }
        return all;
    }

    /** What is written behind = is the same for all three, so the names alone tell them apart. */
    private void attributes() {
        List<List<String>> all = arrangements();
        c.text("how many rows", "15", String.valueOf(all.size()));
        for (List<String> row : all) {
            Run gene = Run.on(Run.some(9));
            gene.line(gene(8, String.join(";", row)));
            boolean fits = row.contains("ID=g") && !row.contains("PARENT=g");
            c.due(fits ? "0" : "IllegalStateException", gene.add());
            Run exon = Run.on(Run.some(9));
            exon.line(with("exon", 8, String.join(";", row)));
            c.due(row.contains("PARENT=g") ? "0" : "IllegalStateException", exon.add());
        }
        for (String wrong : new String[] {
                "", ";", ";;", "ID=g;", ";ID=g", "ID=g;;NOTE=n", "ID=g; NOTE=n", "ID=g ;NOTE=n", "ID=g,NOTE=n",
                "ID=g NOTE=n", "ID=gNOTE=n", "ID=g:NOTE=n", "ID=g;NOTE=n;", "ID=g ", " ID=g", "."}) {
            refused(gene(8, wrong));
        }
    }

    private void eachOnce() {
        for (String attribute : ATTRIBUTES) {
            for (String other : ATTRIBUTES) {
                for (String word : new String[] {"g", "h"}) {
                    refused(gene(8, attribute + "g;" + attribute + word));
                    refused(gene(8, attribute + "g;" + other + "k;" + attribute + word));
                    refused(with("exon", 8, "PARENT=k;" + attribute + "g;" + attribute + word));
                }
            }
        }
        refused(gene(8, "ID=g;NOTE=n;NOTE=n;ID=g"));
        refused(with("exon", 8, "ID=g;PARENT=p;NOTE=n;PARENT=p"));
    }

    private void attributeNames() {
        taken(with("mRNA", 8, "ID=ID;PARENT=PARENT;NOTE=NOTE"));
        for (String name : new String[] {
                "", "=", "ID", "id=", "Id=", "IDS=", "I=", "D=", "ID =", "ID==", "ID:", "XID=", " ID=",
                "PARENT", "parent=",
                "Parent=", "PARENTS=", "PAREN=", "PARENT:", "NOTE", "note=", "Note=", "NOTES=", "NOT=", "NOTE:",
                "ID=PARENT=", "X="}) {
            refused(gene(8, "ID=g;" + name + "n"));
            refused(gene(8, name + "n;ID=g"));
            refused(gene(8, name + "g"));
            refused(with("exon", 8, "PARENT=g;" + name + "n"));
        }
        // The line may end within a name.
        for (String name : new String[] {"I", "ID", "P", "PARENT", "N", "NOTE", "ID=", "PARENT=", "NOTE="}) {
            refused(with("exon", 8, name));
            refused(with("exon", 8, "PARENT=g;" + name));
        }
    }

    private void lengthsOfWords() {
        for (String attribute : ATTRIBUTES) {
            String before = attribute.equals("PARENT=") ? "" : "PARENT=p;";
            for (int n = 0; n <= 12; n++) {
                String word = "aZ09zAbcdefg".substring(0, n);
                String[] tails = {before + attribute + word, attribute + word + (before.isEmpty() ? "" : ";PARENT=p")};
                for (String tail : tails) {
                    Run x = Run.on(Run.some(9));
                    x.line(with("exon", 8, tail));
                    if (n >= 1 && n <= 6) {
                        c.due(0, x.add());
                        c.text("the word", "true", String.valueOf(x.written().contains(attribute + word)));
                    } else {
                        c.refused(IAE, x, Run::add);
                    }
                }
            }
        }
        taken(with("exon", 8, "ID=abcdef;PARENT=ABCDEF;NOTE=012345"));
    }

    private void signsOfWords() {
        for (String attribute : ATTRIBUTES) {
            String rest = attribute.equals("PARENT=") ? "" : ";PARENT=p";
            for (char sign = 32; sign <= 126; sign++) {
                boolean fits = Character.isLetterOrDigit(sign);
                for (String word : new String[] {
                        "" + sign, "a" + sign, sign + "a", "ab" + sign + "cde", "abcde" + sign}) {
                    Run x = Run.on(Run.some(9));
                    x.line(with("exon", 8, attribute + word + rest));
                    c.due(fits ? "0" : IAE, x.add());
                }
            }
        }
        refused(with("exon", 8, "PARENT=\t"));
        refused(with("exon", 8, "PARENT=a\tb"));
    }

    private void lengths() {
        for (int[] places : new int[][] {{1, 1}, {1, 2}, {3, 9}, {120, 120}, {1, 120}}) {
            Run x = Run.on(Run.some(120), "c . gene 1 120 . + . ID=g", "c . mRNA 1 120 . + . ID=m;PARENT=g",
                    "c . exon " + places[0] + " " + places[1] + " . + . PARENT=m");
            c.due(places[1] - places[0] + 1, x.tell(1, 0));
        }
    }

    private void noFeature() {
        refused("");
        refused("c");
        refused(gene(8, "ID=g") + "\t");
        refused("x".repeat(72));
        // A gene's second line is read by itself, with nothing left of the first one.
        Run x = Run.on(Run.some(9), "c . gene 1 9 . + . ID=g;NOTE=n");
        c.refused(IAE, x, Run::add);
        x.line(Texts.tabs("c . mRNA 1 9 . + . ID=m"));
        c.refused("IllegalStateException", x, Run::add);
        x.line(";PARENT=g;");
        c.refused(IAE, x, Run::add);
        x.cut(x.lineLength() - 1);
        c.due(1, x.add());
    }
}
