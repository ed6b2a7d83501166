import java.util.ArrayList;
import java.util.List;
import java.util.function.Function;

/** The terms' last sentence: what a refused call leaves as it was, and which exception comes first. */
final class RefusalBoundaries {
    private static final String IAE = "IllegalArgumentException";
    private static final String ISE = "IllegalStateException";
    private static final String NSEE = "NoSuchElementException";
    private static final String UOE = "UnsupportedOperationException";
    private static final String IOOBE = "IndexOutOfBoundsException";
    private static final String ROWS = "ATGTAATTACAT";

    private final Clauses c;

    RefusalBoundaries(Clauses clauses) {
        c = clauses;
    }

    void test() {
        c.section("Terms");
        c.clause("A call that throws or answers false changes nothing", this::changesNothing);
        c.clause("throws or answers false changes nothing", this::refusedLinesAreNoFeatures);
        c.clause("where several exceptions that a call names fit, it is the one that it names first", () -> {
            firstOfAdd();
            firstOfTell();
            firstOfFrame();
        });
    }

    private record Refused(String want, Function<Run, Run.Answer> call) {
    }

    /** Calls that are refused in every state. */
    private static List<Refused> alwaysRefused() {
        List<Refused> all = new ArrayList<>();
        for (int n : new int[] {-1, 0, 9}) {
            all.add(new Refused("false", x -> x.bases(Run.word("ACGTACGT"), n)));
            all.add(new Refused("false", x -> x.type(Run.word("ACGTACGT"), n)));
        }
        all.add(new Refused("false", x -> x.bases(Run.word("ACGx"), 4)));
        all.add(new Refused("false", x -> x.type(Run.word("ACG\n"), 4)));
        all.add(new Refused("false", x -> x.cut(-1)));
        all.add(new Refused("false", x -> x.cut(73)));
        all.add(new Refused(IOOBE, x -> x.about(-1, 0)));
        all.add(new Refused(IOOBE, x -> x.about(14, 0)));
        all.add(new Refused(IOOBE, x -> x.about(0, 6)));
        all.add(new Refused(IOOBE, x -> x.tell(-1, 0)));
        all.add(new Refused(IOOBE, x -> x.tell(14, 1)));
        all.add(new Refused(IOOBE, x -> x.tell(1, 3)));
        all.add(new Refused(IAE, x -> x.frames(0, 0)));
        all.add(new Refused(IAE, x -> x.frame(3, 0, 0, 0)));
        all.add(new Refused(IOOBE, x -> x.frame(1, 0, 120, 0)));
        all.add(new Refused(IOOBE, x -> x.frame(1, 0, 0, 3)));
        return all;
    }

    private static Run whole() {
        Run x = Run.on(ROWS, "c . gene 1 12 . - . ID=g", "c . mRNA 1 12 . - . ID=m;PARENT=g",
                "c . exon 1 12 . - . PARENT=m", "c . CDS 1 12 . - 0 ID=c;PARENT=m");
        x.tell(1, 1);
        return x;
    }

    private static Run full() {
        Run x = Run.on(Run.some(120));
        for (int i = 0; i < 14; i++) {
            x.put(Texts.tabs("c . gene 1 120 . + . ID=g" + i));
        }
        x.write();
        x.line("x".repeat(72));
        return x;
    }

    private void changesNothing() {
        Run typed = Run.on("ACGT");
        typed.line("name");
        Run half = whole();
        half.line(Texts.tabs("c . mRNA 1 9 . + . ID=q"));
        Run broken = whole();
        broken.put(Texts.tabs("c . exon 1 1 . + . PARENT=x"));
        broken.line("name");
        Run cleared = whole();
        cleared.clear();
        for (Run x : new Run[] {new Run(), typed, whole(), half, broken, full(), cleared}) {
            for (Refused refused : alwaysRefused()) {
                c.refused(refused.want(), x, refused.call());
            }
        }
        // Refused because of the state alone.
        c.refused(IAE, new Run(), Run::add);
        c.refused(IAE, typed, Run::add);
        c.refused(ISE, half, Run::add);
        c.refused(ISE, broken, x -> x.tell(1, 0));
        c.refused("false", full(), x -> x.bases('A', 1));
        c.refused("false", full(), x -> x.type('A', 1));
        c.refused(IAE, full(), Run::add);
        c.refused(IAE, whole(), x -> x.tell(0, 0));
        // What was refused can be mended, and goes on from where it was.
        half.line(";PARENT=g");
        c.due(4, half.add());
        typed.line(Texts.tabs(" . gene 1 4 . + . ID=g"));
        c.due(0, typed.add());
        c.text("the name", Texts.tabs("name . gene 1 4 . + . ID=g\n"), typed.written());
    }

    /** A line that was read and refused has no part in the book, whatever it would have done there. */
    private void refusedLinesAreNoFeatures() {
        Run x = Run.on(ROWS, "c . gene 1 12 . + . ID=g", "c . mRNA 1 12 . + . ID=m;PARENT=g",
                "c . exon 1 6 . + . PARENT=m", "c . CDS 1 3 . + 0 PARENT=m");
        add(NSEE, x, "c . exon 7 9 . + . ID=g;PARENT=m");
        add(NSEE, x, "c . exon 6 7 . + . ID=g;PARENT=m");
        add(NSEE, x, "c . CDS 4 6 . + 0 ID=g;PARENT=m");
        add(NSEE, x, "c . CDS 3 4 . + 0 ID=g;PARENT=m");
        add(NSEE, x, "c . CDS 4 6 . + 1 ID=g;PARENT=m");
        add(NSEE, x, "c . mRNA 1 12 . - . ID=g;PARENT=x");
        add(ISE, x, "c . exon 1 1 . + . ID=e");
        add(IAE, x, "c . exon 1 1 . + . PARENT=m;ID=e;");
        add(IAE, x, "c . exon 1 1 . + . PARENT=m;NOTE=");
        c.due(0, x.fault());
        // Nor does it mend what is wrong there.
        Run broken = Run.on(ROWS, "c . gene 1 12 . + . ID=g", "c . mRNA 1 12 . + . ID=m;PARENT=g",
                "c . CDS 1 3 . + 0 PARENT=m");
        add(NSEE, broken, "c . exon 1 6 . + . ID=g;PARENT=m");
        add(IAE, broken, "c . exon 1 6 . + . PARENT=m;");
        c.due(2 + 16 * 5, broken.fault());
        Run lonely = Run.on(ROWS, "c . mRNA 1 12 . + . ID=m;PARENT=g");
        add(IAE, lonely, "c . gene 1 12 . + . ID=g;NOTE=");
        add(ISE, lonely, "c . gene 1 12 . + . ID=g;PARENT=m");
        c.due(16, lonely.fault());
        c.due(-1, lonely.about(0, 5));
        // In a full book, too.
        Run full = Run.on(ROWS, "c . gene 1 12 . + . ID=g", "c . mRNA 1 12 . + . ID=m;PARENT=g",
                "c . exon 1 6 . + . PARENT=m");
        for (int i = 3; i < 14; i++) {
            full.put(Texts.tabs("c . gene 1 12 . + . ID=g" + i));
        }
        add(UOE, full, "c . exon 6 7 . + . PARENT=m");
        add(UOE, full, "c . exon 7 8 . + . PARENT=m");
        c.due(0, full.fault());
        c.due(6, full.tell(1, 0));
    }

    private void add(String want, Run x, String line) {
        x.cut(0);
        x.line(Texts.tabs(line));
        c.refused(want, x, Run::add);
    }

    private void firstOfAdd() {
        Run x = Run.on(ROWS, "c . gene 1 12 . + . ID=g0");
        add(IAE, x, "c . gene 0 2 . + . NOTE=n");
        add(IAE, x, "c . gene 1 13 . + . ID=g0");
        add(IAE, x, "c . mRNA 1 2 . + 0 ID=g0");
        add(IAE, x, "c . gene 1 2 . + . ID=g0;");
        add(ISE, x, "c . mRNA 1 2 . + . ID=g0");
        add(ISE, x, "c . gene 1 2 . + . ID=g0;PARENT=g0");
        add(NSEE, x, "c . gene 1 2 . + . ID=g0");
        Run full = full();
        add(IAE, full, "");
        add(IAE, full, "c . gene 0 2 . + . ID=h");
        add(IAE, full, "c . gene 0 2 . + . ID=g13");
        add(IAE, full, "c . mRNA 2 1 . + . NOTE=n");
        add(ISE, full, "c . gene 1 2 . + . NOTE=n");
        add(ISE, full, "c . gene 1 2 . + . ID=g0;PARENT=g1");
        add(ISE, full, "c . CDS 1 2 . + 1 ID=g13");
        add(ISE, full, "c . exon 1 2 . + . ID=h");
        add(NSEE, full, "c . gene 1 2 . + . ID=g0");
        add(NSEE, full, "c . exon 1 2 . + . ID=g13;PARENT=x");
        add(UOE, full, "c . exon 1 2 . + . ID=g14;PARENT=x");
        add(UOE, full, "c . exon 1 2 . + . PARENT=x");
    }

    private void firstOfTell() {
        Run x = whole();
        x.put(Texts.tabs("c . mRNA 1 12 . - . ID=n;PARENT=g"));
        for (int code : new int[] {-1, 3}) {
            for (int k = -1; k <= 5; k++) {
                int asked = k;
                c.refused(IOOBE, x, y -> y.tell(asked, code));
            }
        }
        for (int code = 0; code < 3; code++) {
            int asked = code;
            c.refused(IOOBE, x, y -> y.tell(5, asked));
            c.refused(IAE, x, y -> y.tell(0, asked));
            c.refused(IAE, x, y -> y.tell(2, asked));
            c.refused(IAE, x, y -> y.tell(3, asked));
            c.refused(UOE, x, y -> y.tell(4, asked));
        }
        x.put(Texts.tabs("c . exon 1 1 . + . PARENT=x"));
        for (int code = 0; code < 3; code++) {
            int asked = code;
            c.refused(IOOBE, x, y -> y.tell(6, asked));
            c.refused(IAE, x, y -> y.tell(0, asked));
            c.refused(IAE, x, y -> y.tell(5, asked));
            c.refused(ISE, x, y -> y.tell(4, asked));
            c.refused(ISE, x, y -> y.tell(1, asked));
        }
        c.refused(IOOBE, x, y -> y.tell(0, 3));
        c.refused(IOOBE, x, y -> y.tell(4, 3));
    }

    private void firstOfFrame() {
        Run x = Run.on(ROWS);
        for (int code : new int[] {0, 3}) {
            c.refused(IAE, x, y -> y.frame(code, 0, -1, 0));
            c.refused(IAE, x, y -> y.frame(code, 0, 2, 0));
            c.refused(IAE, x, y -> y.frame(code, 0, 0, 3));
            c.refused(IAE, x, y -> y.frame(code, 0, 2, -1));
            c.refused(IAE, x, y -> y.frame(code, 99, 0, 0));
        }
    }
}
