/** The book's terms, and promises 7 to 9. */
final class BookBoundaries {
    private static final String ISE = "IllegalStateException";
    private static final String NSEE = "NoSuchElementException";
    private static final String UOE = "UnsupportedOperationException";
    private static final String IOOBE = "IndexOutOfBoundsException";
    private static final String[] KINDS = {"gene", "mRNA", "exon", "CDS"};

    private final Clauses c;

    BookBoundaries(Clauses clauses) {
        c = clauses;
    }

    void test() {
        c.section("Terms");
        c.clause("THE BOOK has at most 14 features", this::fullBook);
        c.clause("numbered from 0 as they came", this::numbered);
        c.clause("No two have the same ID", this::sameIds);
        c.clause("a gene has an ID, and no parent", this::genesAttributes);
        c.clause("any other has a parent", this::othersAttributes);
        c.clause("(Whether there is one with that ID is not asked when it comes.)", this::parentNotAsked);
        c.clause("THE PARENT of a feature is the one with the ID that its PARENT says.", this::whoIsTheParent);
        add();
        c.section("Promise 8: features");
        c.clause("How many features there are.", this::howMany);
        about();
    }

    private void add() {
        c.section("Promise 7: add");
        c.clause("The line's feature comes into the book", this::comesIntoTheBook);
        c.clause("the line is empty then", this::lineIsEmptyThen);
        c.clause("Its number.", this::numbered);
        c.clause("IllegalStateException when a gene has no ID", this::geneWithoutId);
        c.clause("when a gene has no ID, or a parent", this::geneWithParent);
        c.clause("or another one has no parent", this::othersAttributes);
        c.clause("NoSuchElementException when its ID is there", this::sameIds);
        c.clause("its ID is there", this::otherIds);
        c.clause("UnsupportedOperationException when there are fourteen", this::fullBook);
    }

    private void about() {
        c.section("Promise 9: about");
        c.clause("Of feature k: part 0 its kind (0 gene, 1 mRNA, 2 exon, 3 CDS)", this::aboutKinds);
        c.clause("1 start, 2 end", this::aboutPlaces);
        c.clause("3 strand (0 +, 1 -)", this::aboutStrands);
        c.clause("4 phase (NONE for .)", this::aboutPhases);
        c.clause("5 the number of its parent (NONE if it has none, or that is not there now)", this::aboutParents);
        c.clause("IndexOutOfBoundsException when there is no such feature", this::noSuchFeature);
        c.clause("or part", this::noSuchPart);
    }

    private static String line(String kind, String attributes) {
        return Texts.tabs("c . " + kind + " 2 3 . + " + (kind.equals("CDS") ? "1 " : ". ") + attributes);
    }

    private static Run fourteen() {
        Run x = Run.on("ACGT");
        for (int i = 0; i < 14; i++) {
            x.put(line("gene", "ID=g" + i));
        }
        return x;
    }

    private void fullBook() {
        Run x = Run.on("ACGT");
        for (int i = 0; i < 14; i++) {
            x.line(line("gene", "ID=g" + i));
            c.due(i, x.add());
        }
        c.due(14, x.features());
        for (String kind : KINDS) {
            x.line(line(kind, kind.equals("gene") ? "ID=h" : "ID=h;PARENT=g0"));
            c.refused(UOE, x, Run::add);
            x.cut(0);
        }
        c.due(14, x.features());
        c.due(2, x.about(13, 1));
        x.line(line("gene", "ID=h"));
        x.clear();
        x.give("ACGT");
        x.line(line("gene", "ID=h"));
        c.due(0, x.add());
    }

    private void numbered() {
        Run x = Run.on(Run.some(14));
        for (int i = 0; i < 14; i++) {
            x.line(Texts.tabs("c . " + KINDS[3 - i % 4] + " " + (14 - i) + " 14 . + " + (i % 4 == 0 ? "0" : ".")
                    + " ID=g" + i + (i % 4 == 3 ? "" : ";PARENT=p")));
            c.due(i, x.add());
        }
        for (int i = 0; i < 14; i++) {
            c.due(14 - i, x.about(i, 1));
            c.due(3 - i % 4, x.about(i, 0));
        }
        Run y = Run.on("ACGT", "c . gene 1 2 . + . ID=g");
        y.line(line("mRNA", "ID=g;PARENT=g"));
        c.due(NSEE, y.add());
        y.cut(0);
        y.line(line("mRNA", "PARENT=g"));
        c.due(1, y.add());
    }

    private void sameIds() {
        for (String first : KINDS) {
            for (String second : KINDS) {
                Run x = Run.on("ACGT", "c . gene 1 4 . - . ID=zz");
                x.put(line(first, first.equals("gene") ? "ID=same" : "PARENT=p;ID=same"));
                x.put(line("gene", "ID=zzz"));
                x.line(line(second, second.equals("gene") ? "NOTE=n;ID=same" : "ID=same;PARENT=q"));
                c.refused(NSEE, x, Run::add);
            }
        }
        for (String id : new String[] {"g", "G", "0", "abcdef", "000000"}) {
            Run x = Run.on("ACGT");
            x.put(line("gene", "ID=" + id));
            x.line(line("gene", "ID=" + id));
            c.refused(NSEE, x, Run::add);
        }
        Run last = fourteen();
        last.line(line("gene", "ID=g13"));
        c.refused(NSEE, last, Run::add);
    }

    private void otherIds() {
        String[] ids = {"g", "G", "gg", "g0", "0g", "abcdef", "abcdeg", "bbcdef", "abcde", "bcdef", "Abcdef", "abcdeF"};
        Run x = Run.on("ACGT");
        for (int i = 0; i < ids.length; i++) {
            x.line(line("gene", "ID=" + ids[i]));
            c.due(i, x.add());
        }
        Run y = Run.on("ACGT", "c . exon 1 2 . + . ID=e;PARENT=p;NOTE=n");
        y.put(line("gene", "ID=p"));
        y.put(line("gene", "ID=n"));
        y.put(line("exon", "PARENT=e;NOTE=e"));
        y.put(line("exon", "PARENT=e;NOTE=e"));
        c.due(5, y.features());
        y.clear();
        y.give("ACGT");
        y.line(line("gene", "ID=e"));
        c.due(0, y.add());
    }

    private void genesAttributes() {
        geneWithoutId();
        geneWithParent();
    }

    private void gene(String want, String attributes) {
        Run x = Run.on("ACGT", "c . gene 1 4 . + . ID=p");
        x.line(line("gene", attributes));
        if (want.equals("1")) {
            c.due(want, x.add());
        } else {
            c.refused(want, x, Run::add);
        }
    }

    private void geneWithoutId() {
        gene("1", "ID=g");
        gene("1", "NOTE=n;ID=g");
        gene(ISE, "NOTE=n");
        gene(ISE, "PARENT=p");
        gene(ISE, "PARENT=p;NOTE=n");
    }

    private void geneWithParent() {
        gene(ISE, "ID=g;PARENT=p");
        gene(ISE, "ID=g;PARENT=q");
        gene(ISE, "PARENT=p;ID=g;NOTE=n");
        gene(ISE, "ID=g;PARENT=g");
    }

    private void othersAttributes() {
        for (String kind : new String[] {"mRNA", "exon", "CDS"}) {
            for (String attributes : new String[] {"ID=m", "NOTE=n", "NOTE=n;ID=m", "ID=m;NOTE=n"}) {
                Run x = Run.on("ACGT", "c . gene 1 4 . + . ID=p");
                x.line(line(kind, attributes));
                c.refused(ISE, x, Run::add);
                x.line(";PARENT=p");
                c.due(1, x.add());
            }
            Run x = Run.on("ACGT");
            x.line(line(kind, "PARENT=p"));
            c.due(0, x.add());
        }
    }

    private void parentNotAsked() {
        for (String kind : new String[] {"mRNA", "exon", "CDS"}) {
            Run x = Run.on("ACGT", "c . gene 1 1 . - . ID=g", "c . CDS 4 4 . - 2 ID=c;PARENT=g");
            x.put(line(kind, "PARENT=nobody"));
            x.put(line(kind, "PARENT=g"));
            x.put(line(kind, "PARENT=c"));
            x.put(line(kind, "ID=own;PARENT=own"));
            c.due(6, x.features());
            c.due(-1, x.about(2, 5));
            c.due(5, x.about(5, 5));
        }
    }

    private void whoIsTheParent() {
        Run x = Run.on("ACGT");
        x.put(line("exon", "ID=a;PARENT=e;NOTE=c"));
        x.put(line("exon", "ID=b;PARENT=c;NOTE=e"));
        x.put(line("exon", "ID=c;PARENT=a;NOTE=e"));
        x.put(line("exon", "ID=d;PARENT=d;NOTE=e"));
        x.put(line("exon", "ID=E;PARENT=bb;NOTE=bb"));
        x.put(line("exon", "PARENT=E"));
        int[] parents = {-1, 2, 0, 3, -1, 4};
        for (int k = 0; k < parents.length; k++) {
            c.due(parents[k], x.about(k, 5));
        }
        x.put(line("gene", "ID=e"));
        c.due(6, x.about(0, 5));
        x.put(line("mRNA", "ID=bb;PARENT=e"));
        c.due(7, x.about(4, 5));
        c.due(6, x.about(7, 5));
    }

    private void comesIntoTheBook() {
        Run x = Run.on("ACGT");
        x.line(line("CDS", "NOTE=n;PARENT=p"));
        c.due(0, x.add());
        int[] parts = {3, 2, 3, 0, 1, -1};
        for (int part = 0; part < 6; part++) {
            c.due(parts[part], x.about(0, part));
        }
        c.text("the book", line("CDS", "PARENT=p;NOTE=n") + "\n", x.written());
        c.due(4, x.length());
    }

    private void lineIsEmptyThen() {
        Run x = Run.on("ACGT");
        x.line("x".repeat(72 - line("gene", "ID=g").length()) + line("gene", "ID=g"));
        x.add();
        c.due(false, x.cut(1));
        c.due("IllegalArgumentException", x.add());
        x.line("y".repeat(72));
        c.due(true, x.cut(72));
    }

    private void howMany() {
        Run x = Run.on("ACGT");
        c.due(0, x.features());
        for (int i = 1; i <= 14; i++) {
            x.line(line("gene", "ID=g" + i));
            c.due(i - 1, x.features());
            x.add();
            c.due(i, x.features());
        }
        x.line(line("gene", "ID=g15"));
        x.add();
        c.due(14, x.features());
        x.clear();
        c.due(0, x.features());
    }

    private void aboutKinds() {
        for (int kind = 0; kind < 4; kind++) {
            Run x = Run.on("ACGT");
            x.put(line(KINDS[kind], kind == 0 ? "ID=g" : "PARENT=g"));
            c.due(kind, x.about(0, 0));
        }
    }

    private void aboutPlaces() {
        int[][] some = {{1, 1}, {1, 120}, {120, 120}, {9, 10}, {99, 100}, {100, 109}};
        Run x = Run.on(Run.some(120));
        for (int k = 0; k < some.length; k++) {
            x.put(Texts.tabs("c . gene " + some[k][0] + " " + some[k][1] + " . + . ID=g" + k));
            c.due(some[k][0], x.about(k, 1));
            c.due(some[k][1], x.about(k, 2));
        }
    }

    private void aboutStrands() {
        Run x = Run.on("ACGT", "c . gene 1 4 . + . ID=g", "c . gene 1 4 . - . ID=h");
        c.due(0, x.about(0, 3));
        c.due(1, x.about(1, 3));
    }

    private void aboutPhases() {
        Run x = Run.on("ACGT", "c . CDS 1 4 . + 0 PARENT=m", "c . CDS 1 4 . + 1 PARENT=m",
                "c . CDS 1 4 . + 2 PARENT=m", "c . gene 1 4 . + . ID=g", "c . mRNA 1 4 . + . PARENT=g",
                "c . exon 1 4 . + . PARENT=g");
        int[] phases = {0, 1, 2, -1, -1, -1};
        for (int k = 0; k < phases.length; k++) {
            c.due(phases[k], x.about(k, 4));
        }
        c.text("NONE", "-1", String.valueOf(GeneBook.NONE));
    }

    private void aboutParents() {
        Run x = Run.on("ACGT", "c . gene 1 4 . + . ID=g", "c . mRNA 1 4 . + . ID=m;PARENT=g",
                "c . exon 1 4 . + . PARENT=m", "c . exon 1 4 . + . PARENT=x");
        int[] parents = {-1, 0, 1, -1};
        for (int k = 0; k < parents.length; k++) {
            c.due(parents[k], x.about(k, 5));
        }
        x.put(line("gene", "ID=x"));
        c.due(4, x.about(3, 5));
        x.clear();
        x.give("ACGT");
        x.put(line("exon", "PARENT=m"));
        x.put(line("exon", "PARENT=g"));
        c.due(-1, x.about(0, 5));
        c.due(-1, x.about(1, 5));
        Run last = Run.on("ACGT", "c . exon 1 4 . + . PARENT=g13");
        for (int i = 1; i < 14; i++) {
            last.put(line("gene", "ID=g" + i));
        }
        c.due(13, last.about(0, 5));
    }

    private void noSuchFeature() {
        Run x = Run.on("ACGT", "c . gene 1 4 . + . ID=g", "c . gene 1 4 . - . ID=h");
        for (int k : new int[] {-1, -2, 2, 3, 13, 14, 15, 256, Integer.MIN_VALUE, Integer.MAX_VALUE}) {
            for (int part = -1; part <= 6; part++) {
                int asked = part;
                c.refused(IOOBE, x, y -> y.about(k, asked));
            }
        }
        c.due(0, x.about(0, 0));
        c.due(1, x.about(1, 3));
        Run full = fourteen();
        c.due(2, full.about(13, 1));
        for (int k : new int[] {-1, 14, 15}) {
            c.refused(IOOBE, full, y -> y.about(k, 0));
        }
        // A line that was refused is no feature.
        Run refused = Run.on("ACGT");
        refused.line(line("mRNA", "ID=m"));
        refused.add();
        c.refused(IOOBE, refused, y -> y.about(0, 0));
        x.clear();
        c.refused(IOOBE, x, y -> y.about(0, 0));
    }

    private void noSuchPart() {
        Run x = Run.on("ACGT", "c . gene 1 4 . + . ID=g");
        for (int part : new int[] {-1, -2, 6, 7, 256, Integer.MIN_VALUE, Integer.MAX_VALUE}) {
            c.refused(IOOBE, x, y -> y.about(0, part));
        }
        c.due(0, x.about(0, 0));
        c.due(-1, x.about(0, 5));
    }
}
