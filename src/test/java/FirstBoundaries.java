/** What the document says the class is, before its terms: one small book for all of it. */
final class FirstBoundaries {
    private static final String IAE = "IllegalArgumentException";
    // On the strand + an open frame by code 1 alone, on - one by both codes: ATG GCC TAA TCA NGC CAT.
    private static final String BASES = "ATGGCNTGATTAGGCCAT";
    private static final String[] LINES = {
        "c . exon 10 18 . - . PARENT=n", "c . CDS 7 9 . + 2 PARENT=m;ID=last", "c . gene 1 9 . + . ID=g",
        "c . mRNA 1 9 . + . NOTE=one;ID=m;PARENT=g", "c . exon 7 9 . + . PARENT=m", "c . exon 1 4 . + . PARENT=m",
        "c . CDS 1 4 . + 0 PARENT=m", "c . mRNA 10 18 . - . ID=n;PARENT=h", "c . gene 10 18 . - . ID=h",
        "c . CDS 10 18 . - 0 PARENT=n"};
    private static final int[] WRITTEN = {2, 3, 5, 6, 4, 1, 8, 7, 0, 9};

    private final Clauses c;

    FirstBoundaries(Clauses clauses) {
        c = clauses;
    }

    void test() {
        c.section("What it is");
        c.clause("A book of genes on one strand of bases", this::booksAreApart);
        c.clause("lines with features are read, strictly", this::readStrictly);
        c.clause("and put together by their parents", this::parents);
        c.clause("genes are checked", this::checked);
        c.clause("transcripts spliced and turned around", this::transcripts);
        c.clause("proteins translated by two codes", this::proteins);
        c.clause("open frames found in all six ways", this::frames);
        c.clause("and the book is written in order again", this::written);
        c.clause("An object is used for at most 512 calls after it has been made", this::lastCall);
        c.clause("what later calls answer is free", this::noTestAsksMore);
    }

    private static Run whole() {
        return Run.on(BASES, LINES);
    }

    private void booksAreApart() {
        Run one = Run.on("ACGT", "c . gene 1 4 . + . ID=g");
        one.line("half a line");
        one.write();
        String before = one.state();
        Run other = whole();
        other.line("c");
        other.tell(3, 0);
        c.text("a book beside another one", before, one.state());
        other.clear();
        c.text("a book beside an empty one", before, one.state());
        c.due(0, other.length());
        c.due(4, one.length());
        c.due(1, one.features());
    }

    private void readStrictly() {
        String[] wrong = {
            "c . gene 01 9 . + . ID=g", "c . Gene 1 9 . + . ID=g", "c . gene 1 9 . + 0 ID=g",
            "c . gene 1 19 . + . ID=g", "c . gene 1 9 . + . ID=g;", "c . gene 1 9 . + . ID=g;ID=h",
            "c . gene 1 9 . + . id=g", "c . gene 1 9 . + . ID=g ", " . gene 1 9 . + . ID=g"};
        for (String line : wrong) {
            Run x = Run.on(BASES);
            x.line(Texts.tabs(line));
            c.refused(IAE, x, Run::add);
        }
        Run x = Run.on(BASES);
        for (int i = 0; i < LINES.length; i++) {
            x.line(Texts.tabs(LINES[i]));
            c.due(i, x.add());
        }
    }

    private void parents() {
        Run x = whole();
        int[] parents = {7, 3, -1, 2, 3, 3, 3, 8, -1, 7};
        for (int k = 0; k < parents.length; k++) {
            c.due(parents[k], x.about(k, 5));
        }
    }

    private void checked() {
        Run x = whole();
        c.due(0, x.fault());
        x.put(Texts.tabs("c . exon 18 18 . - . PARENT=n"));
        c.due(16 * 4, x.fault());
    }

    private void transcripts() {
        Run x = whole();
        c.due(7, x.tell(3, 0));
        c.text("the one on +", "ATGGTGA", x.outText());
        c.due(9, x.tell(7, 0));
        c.text("the one on -", "ATGGCCTAA", x.outText());
    }

    private void proteins() {
        Run x = whole();
        c.due(2, x.tell(3, 1));
        c.text("the one on +", "MV", x.outText());
        c.due(3, x.tell(7, 2));
        c.text("the one on -", "MA*", x.outText());
        Run y = Run.on("TGAATAAGA", "c . gene 1 9 . + . ID=g", "c . mRNA 1 9 . + . ID=m;PARENT=g",
                "c . exon 1 9 . + . PARENT=m", "c . CDS 1 9 . + 0 PARENT=m");
        c.due(3, y.tell(1, 1));
        c.text("by code 1", "*IR", y.outText());
        c.due(3, y.tell(1, 2));
        c.text("by code 2", "WM*", y.outText());
    }

    private void frames() {
        Run x = whole();
        c.due(2, x.frames(1, 3));
        c.due(1, x.frame(1, 3, 0, 1));
        c.due(18, x.frame(1, 3, 1, 1));
        c.due(1, x.frames(2, 3));
        c.due(18, x.frame(2, 3, 0, 1));
        for (int shift = 0; shift < 3; shift++) {
            for (int behind = 0; behind < 3; behind++) {
                Run up = Run.on("C".repeat(shift) + "ATGTAG" + "C".repeat(behind));
                c.due(1, up.frames(1, 0));
                c.due(shift + 1, up.frame(1, 0, 0, 1));
                c.due(0, up.frame(1, 0, 0, 2));
                Run down = Run.on("C".repeat(behind) + "CTACAT" + "C".repeat(shift));
                c.due(1, down.frames(1, 0));
                c.due(behind + 6, down.frame(1, 0, 0, 1));
                c.due(1, down.frame(1, 0, 0, 2));
            }
        }
    }

    private void written() {
        Run x = whole();
        StringBuilder want = new StringBuilder();
        for (int k : WRITTEN) {
            String line = LINES[k].replace("NOTE=one;ID=m;PARENT=g", "ID=m;PARENT=g;NOTE=one")
                    .replace("PARENT=m;ID=last", "ID=last;PARENT=m");
            want.append(Texts.tabs(line)).append('\n');
        }
        c.due(want.length(), x.write());
        c.text("OUT", want.toString(), x.outText());
        // Read again as it was written, it is written the same.
        Run again = Run.on(BASES, want.toString().replace('\t', ' ').split("\n"));
        again.write();
        c.text("OUT of the book read again", want.toString(), again.outText());
    }

    private void lastCall() {
        Run x = Run.on("ATGTAA", "c . gene 1 6 . + . ID=g", "c . mRNA 1 6 . + . ID=m;PARENT=g",
                "c . exon 1 6 . + . PARENT=m", "c . CDS 1 6 . + 0 PARENT=m");
        while (x.calls() < Run.MOST_CALLS - 2) {
            x.write();
        }
        c.due(2, x.tell(1, 1));
        c.due('M' + 0, x.out(0));
    }

    private void noTestAsksMore() {
        Run x = new Run();
        while (x.calls() < Run.MOST_CALLS) {
            x.length();
        }
        String asked = "answered";
        try {
            x.length();
        } catch (AssertionError e) {
            asked = "not asked";
        }
        c.text("call 513 of a test", "not asked", asked);
    }
}
