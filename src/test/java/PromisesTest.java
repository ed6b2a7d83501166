import java.util.NoSuchElementException;

/** Each promise by itself: ordinary inputs, the edges that the document names, wrong inputs. */
public final class PromisesTest {
    private static final Class<IllegalArgumentException> IAE = IllegalArgumentException.class;
    private static final Class<IllegalStateException> ISE = IllegalStateException.class;
    private static final Class<IndexOutOfBoundsException> IOOBE = IndexOutOfBoundsException.class;
    private static final Class<NoSuchElementException> NSEE = NoSuchElementException.class;
    private static final Class<UnsupportedOperationException> UOE = UnsupportedOperationException.class;
    private static final Answers ANSWERS = new Answers();

    public static void main(String[] args) {
        newObject();
        bases();
        type();
        cut();
        clear();
        length();
        addReadsStrictly();
        addReadsAttributes();
        addRefuses();
        addNamesTheFirst();
        features();
        about();
        faultsOfParents();
        faultsOfExons();
        faultsOfCdss();
        phases();
        firstFaultCounts();
        tellRefuses();
        tellTranscripts();
        tellProteins();
        tellCodons();
        frames();
        framesOfBothCodes();
        frame();
        write();
        out();
        ANSWERS.end();
    }

    private static void due(String what, long want, Answers.Call call) {
        ANSWERS.due(what, want, call);
    }

    private static void yes(String what, boolean got) {
        ANSWERS.due(what, true, got);
    }

    private static void no(String what, boolean got) {
        ANSWERS.due(what, false, got);
    }

    private static GeneBook on(String bases, String... lines) {
        GeneBook x = new GeneBook();
        yes("bases " + bases, Texts.bases(x, bases));
        for (int i = 0; i < lines.length; i++) {
            int number = i;
            String line = Texts.tabs(lines[i]);
            due("add " + lines[i], number, () -> Texts.add(x, line));
        }
        return x;
    }

    private static GeneBook onTens(int tens, String... lines) {
        return on("ACGTACGTAC".repeat(tens), lines);
    }

    private static void fault(String what, int number, int fault, String... lines) {
        GeneBook x = onTens(6, lines);
        due("fault: " + what, number + 16L * fault, x::fault);
    }

    // Promise 1
    private static void newObject() {
        GeneBook x = new GeneBook();
        due("new length", 0, x::length);
        due("new features", 0, x::features);
        due("new fault", 0, x::fault);
        due("new out", 0, () -> x.out(0));
        no("new line has none", x.cut(1));
        due("new write", 0, x::write);
    }

    // Promise 2
    private static void bases() {
        GeneBook x = new GeneBook();
        no("bases 0", x.bases('A', 0));
        no("bases -1", x.bases('A', -1));
        no("bases 9", x.bases(Texts.word("ACGTACGT"), 9));
        no("bases least int", x.bases('A', Integer.MIN_VALUE));
        no("bases greatest int", x.bases('A', Integer.MAX_VALUE));
        for (int c = 0; c < 256; c++) {
            ANSWERS.due("base " + c, "ACGTN".indexOf(c) >= 0, x.bases(c, 1));
        }
        due("five bases", 5, x::length);
        no("a wrong one at the end", x.bases(Texts.word("ACGU"), 4));
        no("a wrong one at the beginning", x.bases(Texts.word("aCGT"), 4));
        no("a zero behind", x.bases(Texts.word("ACG"), 4));
        due("nothing came", 5, x::length);
        yes("bytes above n do not count", x.bases(Texts.word("ACGxyz!?"), 3));
        due("eight bases", 8, x::length);
        for (int i = 0; i < 13; i++) {
            x.bases(Texts.word("TTTTTTTT"), 8);
        }
        yes("up to 119", x.bases(Texts.word("TTTTTTT"), 7));
        no("two more are too many", x.bases(Texts.word("GG"), 2));
        due("still 119", 119, x::length);
        yes("the last one", x.bases('G', 1));
        no("none more", x.bases('G', 1));
        due("full", 120, x::length);

        GeneBook y = on("NA", "c . gene 1 2 . + . ID=g");
        yes("lowest byte first", Texts.bases(y, "CGTACGTA"));
        Texts.add(y, Texts.tabs("c . mRNA 1 2 . + . ID=m;PARENT=g"));
        Texts.add(y, Texts.tabs("c . exon 1 2 . + . PARENT=m"));
        due("transcript", 2, () -> y.tell(1, 0));
        ANSWERS.due("bases in order", "NA", Texts.out(y));
    }

    // Promise 3
    private static void type() {
        GeneBook x = new GeneBook();
        no("type 0", x.type('A', 0));
        no("type -1", x.type('A', -1));
        no("type 9", x.type(Texts.word("ACGTACGT"), 9));
        no("type least int", x.type('A', Integer.MIN_VALUE));
        for (int c = 0; c < 256; c++) {
            ANSWERS.due("character " + c, c == 9 || c >= 32 && c <= 126, new GeneBook().type(c, 1));
        }
        yes("eight", x.type(Texts.word("abcdefgh"), 8));
        no("one wrong at the end", x.type(Texts.word("abc\n"), 4));
        no("one wrong at the beginning", x.type(Texts.word("\u007fabc"), 4));
        no("nothing came", x.cut(9));
        yes("bytes above n do not count", x.type(Texts.word("a\n\n\n\n\n\n\n"), 1));
        yes("nine", x.cut(9));
        x.cut(0);
        yes("71", Texts.type(x, "x".repeat(71)));
        no("two more are too many", x.type(Texts.word("yy"), 2));
        no("still 71", x.cut(72));
        yes("the last one", x.type('y', 1));
        no("none more", x.type('y', 1));
        yes("72", x.cut(72));
        due("no base came", 0, x::length);

        GeneBook y = on("ACGT");
        Texts.type(y, Texts.tabs("c . gene 1 4 . + . ID=g"));
        yes("behind the line", y.type(Texts.word("2"), 1));
        due("typed", 0, y::add);
        y.write();
        ANSWERS.due("as typed", Texts.tabs("c . gene 1 4 . + . ID=g2\n"), Texts.out(y));
    }

    // Promise 4
    private static void cut() {
        GeneBook x = on("ACGT");
        yes("cut 0 of an empty line", x.cut(0));
        no("cut 1 of an empty line", x.cut(1));
        Texts.type(x, Texts.tabs("c . gene 1 4 . + . ID=gxx"));
        no("cut -1", x.cut(-1));
        no("cut least int", x.cut(Integer.MIN_VALUE));
        no("cut 26", x.cut(26));
        no("cut greatest int", x.cut(Integer.MAX_VALUE));
        yes("cut all", x.cut(25));
        yes("cut two", x.cut(23));
        no("they are gone", x.cut(24));
        due("the first ones are kept", 0, x::add);
        x.write();
        ANSWERS.due("kept", Texts.tabs("c . gene 1 4 . + . ID=g\n"), Texts.out(x));
    }

    // Promise 5
    private static void clear() {
        GeneBook x = on("ACGT", "c . gene 1 4 . + . ID=g");
        x.write();
        Texts.type(x, "abc");
        String before = Texts.out(x);
        x.clear();
        due("length", 0, x::length);
        due("features", 0, x::features);
        no("line", x.cut(1));
        due("fault", 0, x::fault);
        ANSWERS.due("OUT stays", before, Texts.out(x));
        ANSWERS.thrown("about", IOOBE, () -> x.about(0, 0));
        yes("bases again", Texts.bases(x, "TTTT"));
        due("numbers and IDs again", 0, () -> Texts.add(x, Texts.tabs("c . gene 2 3 . - . ID=g")));
        due("its own start", 2, () -> x.about(0, 1));
    }

    // Promise 6
    private static void length() {
        GeneBook x = new GeneBook();
        Texts.bases(x, "ACG");
        due("three", 3, x::length);
        Texts.bases(x, "NNNNNNNN");
        due("eleven", 11, x::length);
        Texts.type(x, "abcd");
        due("the line does not count", 11, x::length);
    }

    private static void taken(String line) {
        due("add " + line, 0, () -> Texts.add(onTens(12), line));
    }

    private static void refused(String line) {
        GeneBook x = onTens(12);
        ANSWERS.thrown("add " + line, IAE, () -> Texts.add(x, line));
        due("features behind it", 0, x::features);
        yes("the line stays", x.cut(Math.min(72, line.length())));
        no("the line is not longer", x.cut(Math.min(72, line.length()) + 1));
    }

    // Promise 7
    private static void addReadsStrictly() {
        for (String line : new String[] {
                "c . gene 1 120 . + . ID=g", "c . gene 120 120 . - . ID=g", "c . gene 1 1 . + . ID=g",
                "~#;=. . gene 99 100 . + . ID=g", "c . mRNA 1 2 . + . PARENT=g",
                "c . exon 1 2 . + . PARENT=g", "c . CDS 1 2 . + 0 PARENT=g",
                "c . CDS 1 2 . + 1 PARENT=g", "c . CDS 1 2 . + 2 PARENT=g"}) {
            taken(Texts.tabs(line));
        }
        taken("a b c" + Texts.tabs(" . gene 1 2 . + . ID=g"));
        taken(" " + Texts.tabs(" . gene 1 2 . + . ID=g"));
        for (String line : new String[] {
                "", "c", " . gene 1 2 . + . ID=g", "c  gene 1 2 . + . ID=g", "c .. gene 1 2 . + . ID=g",
                "c x gene 1 2 . + . ID=g", "c . Gene 1 2 . + . ID=g", "c . genes 1 2 . + . ID=g",
                "c . gen 1 2 . + . ID=g", "c .  1 2 . + . ID=g", "c . mrna 1 2 . + . PARENT=g",
                "c . cds 1 2 . + 0 PARENT=g", "c . gene 0 2 . + . ID=g", "c . gene 01 2 . + . ID=g",
                "c . gene 1 02 . + . ID=g", "c . gene 1 002 . + . ID=g", "c . gene  2 . + . ID=g",
                "c . gene 1  . + . ID=g", "c . gene -1 2 . + . ID=g", "c . gene +1 2 . + . ID=g",
                "c . gene 1 2a . + . ID=g", "c . gene a 2 . + . ID=g", "c . gene 1: 20 . + . ID=g",
                "c . gene 1/ 20 . + . ID=g", "c . gene 2 1 . + . ID=g", "c . gene 1 121 . + . ID=g",
                "c . gene 1 999 . + . ID=g", "c . gene 1 1000 . + . ID=g", "c . gene 1 0 . + . ID=g",
                "c . gene 1 4294967297 . + . ID=g",
                "c . gene 1000 1000 . + . ID=g", "c . gene 1 2  + . ID=g", "c . gene 1 2 0 + . ID=g",
                "c . gene 1 2 .. + . ID=g", "c . gene 1 2 .  . ID=g", "c . gene 1 2 . ++ . ID=g",
                "c . gene 1 2 . . . ID=g", "c . gene 1 2 . +-. ID=g", "c . gene 1 2 . + 0 ID=g",
                "c . mRNA 1 2 . + 0 PARENT=g", "c . exon 1 2 . + 0 PARENT=g", "c . gene 1 2 . +  ID=g",
                "c . gene 1 2 . + .. ID=g", "c . CDS 1 2 . + . PARENT=g", "c . CDS 1 2 . + 3 PARENT=g",
                "c . CDS 1 2 . + / PARENT=g", "c . CDS 1 2 . + 00 PARENT=g", "c . CDS 1 2 . +  PARENT=g",
                "c . gene 1 2 . + .", "c . gene 1 2 . + . ", "c . gene 1 2 . + . ID=g ",
                "c . gene 1 2 . + . ID=g x", " c . gene 1 2 . + . ID=g", "c . gene 1 2 . + ID=g"}) {
            refused(Texts.tabs(line));
        }
        refused("c . gene 1 2 . + . ID=g");
        refused("\t".repeat(72));
        refused("\t".repeat(8));
        refused(Texts.tabs("c . gene 1 2 . + . ID=g") + " ");
        refused(Texts.tabs("c . gene 1 ") + " 2" + Texts.tabs(" . + . ID=g"));
    }

    private static void addReadsAttributes() {
        String head = Texts.tabs("c . mRNA 1 2 . + . ");
        for (String tail : new String[] {
                "PARENT=g", "PARENT=abcdef", "PARENT=azAZ09", "ID=m;PARENT=g", "PARENT=g;ID=m",
                "NOTE=n;PARENT=g", "NOTE=n;PARENT=g;ID=m", "ID=ID;PARENT=PARENT;NOTE=NOTE",
                "PARENT=0", "ID=m;NOTE=m;PARENT=m"}) {
            taken(head + tail);
        }
        for (String tail : new String[] {
                "PARENT=", "PARENT", "PARENT=abcdefg", "PARENT=a_b", "PARENT=a b", "PARENT=a.b",
                "PARENT=a@", "PARENT=a[", "PARENT=a`", "PARENT=a{", "PARENT=a/", "PARENT=a:",
                "parent=g", "Parent=g", "PARENT=g;", ";PARENT=g", "PARENT=g;;ID=m", ";",
                "PARENT=g;PARENT=g", "PARENT=g;PARENT=h", "ID=m;PARENT=g;ID=m", "ID=m;PARENT=g;ID=n",
                "NOTE=a;NOTE=b;PARENT=g", "PARENT=g;NOTE=", "PARENT=g;ID=", "PARENT=g;X=y",
                "PARENT=g;id=m", "PARENT=g;ID", "PARENT=g;ID=m;NOTE", "PARENT=g ;ID=m", "PARENT=g; ID=m",
                "PARENT==g", "PARENT=g=h", "PARENT =g", "ID=m,PARENT=g", "PARENT=g;NOTE=abcdefg"}) {
            refused(head + tail);
        }
    }

    private static void addRefuses() {
        GeneBook x = onTens(12);
        String[] unfit = {
            "c . gene 1 2 . + . NOTE=n", "c . gene 1 2 . + . PARENT=g", "c . gene 1 2 . + . ID=g;PARENT=h",
            "c . mRNA 1 2 . + . ID=m", "c . exon 1 2 . + . NOTE=n", "c . CDS 1 2 . + 0 ID=c;NOTE=n"};
        for (String line : unfit) {
            ANSWERS.thrown("add " + line, ISE, () -> Texts.add(x, Texts.tabs(line)));
            due("nothing came", 0, x::features);
            yes("the line stays", x.cut(line.length()));
        }
        due("a gene", 0, () -> Texts.add(x, Texts.tabs("c . gene 1 2 . + . ID=g")));
        no("the line is empty then", x.cut(1));
        ANSWERS.thrown("add an empty line", IAE, x::add);
        String again = Texts.tabs("d . mRNA 3 4 . - . ID=g;PARENT=g");
        ANSWERS.thrown("the same ID", NSEE, () -> Texts.add(x, again));
        yes("the line stays", x.cut(again.length()));
        due("nothing came", 1, x::features);
        due("others differ", 1, () -> Texts.add(x, Texts.tabs("c . gene 1 2 . + . ID=G")));
        due("longer ones differ", 2, () -> Texts.add(x, Texts.tabs("c . gene 1 2 . + . ID=gg")));
        due("six characters", 3, () -> Texts.add(x, Texts.tabs("c . gene 1 2 . + . ID=abcdef")));
        due("the last differs", 4, () -> Texts.add(x, Texts.tabs("c . gene 1 2 . + . ID=abcdeg")));
        due("the first differs", 5, () -> Texts.add(x, Texts.tabs("c . gene 1 2 . + . ID=bbcdef")));
        due("an ID is no parent", 6, () -> Texts.add(x, Texts.tabs("c . exon 1 2 . + . PARENT=q;NOTE=g")));
        due("a parent is no ID", 7, () -> Texts.add(x, Texts.tabs("c . exon 1 2 . + . PARENT=q;ID=q")));
        due("without ID", 8, () -> Texts.add(x, Texts.tabs("c . exon 1 2 . + . PARENT=q")));
    }

    private static void addNamesTheFirst() {
        GeneBook x = onTens(12);
        for (int i = 0; i < 14; i++) {
            int number = i;
            due("add", number, () -> Texts.add(x, Texts.tabs("c . gene 1 2 . + . ID=g" + number)));
        }
        ANSWERS.thrown("the fifteenth", UOE, () -> Texts.add(x, Texts.tabs("c . gene 1 2 . + . ID=h")));
        yes("the line stays", x.cut(23));
        ANSWERS.thrown("an ID first", NSEE, () -> Texts.add(x, Texts.tabs("c . gene 1 2 . + . ID=g13")));
        ANSWERS.thrown("a gene with a parent first", ISE,
                () -> Texts.add(x, Texts.tabs("c . gene 1 2 . + . ID=g1;PARENT=g2")));
        ANSWERS.thrown("no parent first", ISE, () -> Texts.add(x, Texts.tabs("c . mRNA 1 2 . + . ID=g1")));
        ANSWERS.thrown("no feature first", IAE, () -> Texts.add(x, Texts.tabs("c . mRNA 1 2 . + 0 ID=g1")));
        due("fourteen", 14, x::features);
        due("the last one is as it was", 1, () -> x.about(13, 1));
        due("whole", 0, x::fault);
        x.clear();
        Texts.bases(x, "ACGT");
        due("room again", 0, () -> Texts.add(x, Texts.tabs("c . gene 1 4 . + . ID=g13")));
    }

    // Promise 8
    private static void features() {
        GeneBook x = onTens(2, "c . gene 1 20 . + . ID=g", "c . mRNA 1 20 . + . PARENT=no");
        due("features", 2, x::features);
        ANSWERS.thrown("no feature", IAE, x::add);
        due("features still", 2, x::features);
    }

    // Promise 9
    private static void about() {
        GeneBook x = onTens(12, "c . CDS 7 9 . - 2 PARENT=m", "c . exon 100 120 . + . ID=e;PARENT=g",
                "c . mRNA 5 5 . - . ID=m;PARENT=m", "c . gene 1 99 . + . ID=g", "c . CDS 1 1 . + 0 PARENT=n",
                "c . CDS 1 1 . + 1 PARENT=e");
        int[][] want = {
            {3, 7, 9, 1, 2, 2}, {2, 100, 120, 0, -1, 3}, {1, 5, 5, 1, -1, 2}, {0, 1, 99, 0, -1, -1},
            {3, 1, 1, 0, 0, -1}, {3, 1, 1, 0, 1, 1}};
        for (int k = 0; k < want.length; k++) {
            for (int part = 0; part < 6; part++) {
                int number = k;
                int asked = part;
                due("about " + k + " " + part, want[k][part], () -> x.about(number, asked));
            }
        }
        for (int part : new int[] {-1, 6, Integer.MIN_VALUE, Integer.MAX_VALUE}) {
            ANSWERS.thrown("part " + part, IOOBE, () -> x.about(0, part));
        }
        for (int k : new int[] {-1, 6, 14, 15, Integer.MIN_VALUE, Integer.MAX_VALUE}) {
            ANSWERS.thrown("feature " + k, IOOBE, () -> x.about(k, 0));
        }
        Texts.add(x, Texts.tabs("c . mRNA 3 4 . + . ID=n;PARENT=g"));
        due("a parent that came later", 6, () -> x.about(4, 5));
    }

    private static final String G = "c . gene 10 50 . + . ID=g";
    private static final String M = "c . mRNA 10 50 . + . ID=m;PARENT=g";
    private static final String E = "c . exon 10 50 . + . ID=e;PARENT=m";

    // Promise 10
    private static void faultsOfParents() {
        due("an empty book", 0, new GeneBook()::fault);
        fault("whole", 0, 0, G, M, E, "c . CDS 10 50 . + 2 PARENT=m");
        fault("whole, parents behind", 0, 0, E, "c . CDS 11 12 . + 0 PARENT=m", M, G);
        fault("whole, a CDS first", 0, 0, "c . CDS 11 12 . + 0 PARENT=m", E, M, G);
        fault("7, a CDS first", 1, 7, "c . CDS 11 12 . + 0 PARENT=m", "c . CDS 13 14 . + 0 PARENT=m", E, M, G);
        fault("1, an mRNA", 1, 1, G, "c . mRNA 10 50 . + . ID=m;PARENT=h");
        fault("1, an exon", 0, 1, E, G);
        fault("1, a CDS", 2, 1, G, M, "c . CDS 10 50 . + 0 PARENT=g1");
        fault("2, an mRNA of an mRNA", 2, 2, G, M, "c . mRNA 10 50 . + . ID=n;PARENT=m");
        fault("2, an mRNA of itself", 0, 2, "c . mRNA 10 50 . + . ID=m;PARENT=m");
        fault("2, an exon of a gene", 1, 2, G, "c . exon 10 50 . + . PARENT=g");
        fault("2, an exon of an exon", 3, 2, G, M, E, "c . exon 60 60 . - . PARENT=e");
        fault("2, a CDS of an exon", 3, 2, G, M, E, "c . CDS 10 50 . + 0 PARENT=e");
        fault("2, a CDS of a gene", 1, 2, G, "c . CDS 10 50 . + 0 PARENT=g");
        fault("3, begins before", 1, 3, G, "c . mRNA 9 50 . + . ID=m;PARENT=g");
        fault("3, ends behind", 1, 3, G, "c . mRNA 10 51 . + . ID=m;PARENT=g");
        fault("3, the strand", 1, 3, G, "c . mRNA 10 50 . - . ID=m;PARENT=g");
        fault("3, an exon", 2, 3, G, M, "c . exon 9 50 . + . PARENT=m");
        fault("3, an exon's strand", 2, 3, G, M, "c . exon 10 50 . - . PARENT=m");
        fault("3, a CDS", 3, 3, G, M, E, "c . CDS 50 51 . + 0 PARENT=m");
        fault("3, a CDS's strand", 3, 3, G, M, E, "c . CDS 10 50 . - 0 PARENT=m");
        fault("whole, least ones", 0, 0, G, "c . mRNA 50 50 . + . ID=m;PARENT=g", "c . exon 50 50 . + . PARENT=m");
    }

    private static void faultsOfExons() {
        String left = "c . exon 10 20 . + . PARENT=m";
        fault("4, one place", 2, 4, G, M, left, "c . exon 20 30 . + . PARENT=m");
        fault("4, the other way", 2, 4, G, M, "c . exon 20 30 . + . PARENT=m", left);
        fault("4, within", 2, 4, G, M, left, "c . exon 12 13 . + . PARENT=m");
        fault("4, around", 2, 4, G, M, "c . exon 12 13 . + . PARENT=m", left);
        fault("4, the same", 2, 4, G, M, left, left);
        fault("whole, side by side", 0, 0, G, M, left, "c . exon 21 30 . + . PARENT=m");
        fault("whole, of another mRNA", 0, 0, G, M, left, "c . mRNA 10 50 . + . ID=n;PARENT=g",
                "c . exon 10 20 . + . PARENT=n");
        fault("4, with one that is faulty itself", 2, 4, G, M, left, "c . exon 20 55 . - . PARENT=m");
        fault("mRNAs may meet", 0, 0, G, M, "c . mRNA 10 50 . + . ID=n;PARENT=g");
        fault("genes may meet", 0, 0, G, "c . gene 10 50 . + . ID=h");
    }

    private static void faultsOfCdss() {
        String left = "c . exon 10 20 . + . PARENT=m";
        String right = "c . exon 21 30 . + . PARENT=m";
        fault("5, no exon", 2, 5, G, M, "c . CDS 10 12 . + 0 PARENT=m");
        fault("5, over two", 4, 5, G, M, left, right, "c . CDS 20 21 . + 0 PARENT=m");
        fault("5, ends behind", 3, 5, G, M, left, "c . CDS 10 21 . + 0 PARENT=m");
        fault("5, begins before", 3, 5, G, M, right, "c . CDS 20 22 . + 0 PARENT=m");
        fault("5, another one's exon", 4, 5, G, M, "c . mRNA 10 50 . + . ID=n;PARENT=g",
                "c . exon 10 20 . + . PARENT=n", "c . CDS 10 12 . + 0 PARENT=m");
        fault("whole, all of the exon", 0, 0, G, M, left, "c . CDS 10 20 . + 0 PARENT=m");
        fault("6, one place", 3, 6, G, M, left, "c . CDS 10 12 . + 0 PARENT=m",
                "c . CDS 12 14 . + 0 PARENT=m");
        fault("6, the same", 3, 6, G, M, left, "c . CDS 10 12 . + 0 PARENT=m",
                "c . CDS 10 12 . + 0 PARENT=m");
        fault("whole, two in one exon", 0, 0, G, M, left, "c . CDS 10 12 . + 0 PARENT=m",
                "c . CDS 13 15 . + 0 PARENT=m");
        fault("6 before 7", 3, 6, G, M, left, "c . CDS 13 15 . + 1 PARENT=m",
                "c . CDS 10 13 . + 0 PARENT=m");
        fault("5 before 6", 3, 5, G, M, left, "c . CDS 19 22 . + 0 PARENT=m",
                "c . CDS 19 20 . + 0 PARENT=m");
        fault("whole, of another mRNA", 0, 0, G, M, left, "c . mRNA 10 50 . + . ID=n;PARENT=g",
                "c . exon 10 20 . + . PARENT=n", "c . CDS 10 13 . + 0 PARENT=m",
                "c . CDS 11 14 . + 0 PARENT=n");
    }

    private static void phases() {
        for (int span = 1; span <= 7; span++) {
            for (int before = 0; before < 3; before++) {
                int right = span < before ? before - span : (3 - (span - before) % 3) % 3;
                for (int phase = 0; phase < 3; phase++) {
                    int fault = phase == right ? 0 : 7;
                    String first = "c . CDS 10 " + (9 + span) + " . + " + before + " PARENT=m";
                    String second = "c . CDS 31 35 . + " + phase + " PARENT=m";
                    fault("7, + " + span + " " + before, fault == 0 ? 0 : 4, fault, G, M, E, first, second);
                    fault("7, + turned " + span, fault == 0 ? 0 : 3, fault, G, M, E, second, first);
                    first = "c . CDS " + (51 - span) + " 50 . - " + before + " PARENT=m";
                    second = "c . CDS 31 35 . - " + phase + " PARENT=m";
                    fault("7, - " + span, fault == 0 ? 0 : 4, fault, G.replace('+', '-'),
                            M.replace('+', '-'), E.replace('+', '-'), first, second);
                }
            }
        }
        fault("7, the third one", 5, 7, G, M, E, "c . CDS 10 13 . + 0 PARENT=m",
                "c . CDS 20 21 . + 2 PARENT=m", "c . CDS 30 31 . + 2 PARENT=m");
        fault("7, the one before is ordered by the mRNA's strand", 3, 7, G, M, E,
                "c . CDS 20 22 . + 0 PARENT=m", "c . CDS 10 13 . - 0 PARENT=m");
        fault("3, as the phase is right", 4, 3, G, M, E,
                "c . CDS 20 22 . + 2 PARENT=m", "c . CDS 10 13 . - 0 PARENT=m");
        // Two that begin alike are ordered by their numbers, so the one before is the last of them.
        fault("7, two before with the same start", 3, 7, G, M, E, "c . CDS 20 22 . + 1 PARENT=m",
                "c . CDS 10 11 . + 0 PARENT=m", "c . CDS 10 12 . + 0 PARENT=m");
        fault("6, two before with the same start", 4, 6, G, M, E, "c . CDS 20 22 . + 0 PARENT=m",
                "c . CDS 10 11 . + 0 PARENT=m", "c . CDS 10 12 . + 0 PARENT=m");
        String[] down = {G.replace('+', '-'), M.replace('+', '-'), E.replace('+', '-'),
            "c . CDS 20 22 . - 1 PARENT=m", "c . CDS 49 50 . - 0 PARENT=m", "c . CDS 48 50 . - 0 PARENT=m"};
        fault("7, two before with the same end", 3, 7, down);
        down[3] = "c . CDS 20 22 . - 0 PARENT=m";
        fault("6, two before with the same end", 4, 6, down);
    }

    private static void firstFaultCounts() {
        fault("by features first", 1, 3, G, "c . mRNA 1 50 . + . ID=m;PARENT=g",
                "c . exon 1 2 . + . PARENT=x");
        fault("2 before 3", 1, 2, G, "c . exon 1 60 . - . PARENT=g");
        fault("3 before 4", 2, 3, G, M, "c . exon 10 55 . + . PARENT=m", E);
        fault("3 before 5", 2, 3, G, M, "c . CDS 9 9 . + 0 PARENT=m");
        String[] lines = new String[14];
        for (int i = 0; i < 13; i++) {
            lines[i] = "c . gene 10 50 . + . ID=g" + i;
        }
        lines[13] = "c . mRNA 10 50 . + . PARENT=x";
        fault("the last one", 13, 1, lines);
    }

    // Promise 11
    private static void tellRefuses() {
        GeneBook x = onTens(6, G, M);
        Texts.type(x, "left");
        x.write();
        String before = Texts.out(x);
        for (int k : new int[] {-1, 2, Integer.MIN_VALUE, Integer.MAX_VALUE}) {
            ANSWERS.thrown("tell " + k, IOOBE, () -> x.tell(k, 0));
        }
        for (int code : new int[] {-1, 3, Integer.MIN_VALUE, Integer.MAX_VALUE}) {
            ANSWERS.thrown("code " + code, IOOBE, () -> x.tell(1, code));
            ANSWERS.thrown("code first " + code, IOOBE, () -> x.tell(0, code));
        }
        ANSWERS.thrown("a gene", IAE, () -> x.tell(0, 0));
        for (int code = 0; code < 3; code++) {
            int asked = code;
            ANSWERS.thrown("no exon, no CDS", UOE, () -> x.tell(1, asked));
        }
        Texts.add(x, Texts.tabs("c . exon 10 12 . + . PARENT=m"));
        ANSWERS.thrown("an exon", IAE, () -> x.tell(2, 0));
        ANSWERS.thrown("no CDS", UOE, () -> x.tell(1, 1));
        ANSWERS.due("OUT is as it was", before, Texts.out(x));
        due("an exon is there", 3, () -> x.tell(1, 0));
        Texts.add(x, Texts.tabs("c . CDS 10 12 . + 0 PARENT=m"));
        ANSWERS.thrown("a CDS", IAE, () -> x.tell(3, 0));
        due("a CDS is there", 1, () -> x.tell(1, 2));
        Texts.add(x, Texts.tabs("c . mRNA 10 12 . + . PARENT=g"));
        ANSWERS.thrown("an mRNA without ID has no exon", UOE, () -> x.tell(4, 0));
        Texts.add(x, Texts.tabs("c . exon 1 1 . + . PARENT=no"));
        ANSWERS.thrown("not whole", ISE, () -> x.tell(1, 0));
        ANSWERS.thrown("not whole first", ISE, () -> x.tell(4, 1));
        ANSWERS.thrown("no mRNA first", IAE, () -> x.tell(0, 1));
    }

    private static String told(GeneBook x, int k, int code) {
        int length = x.tell(k, code);
        String text = Texts.out(x);
        ANSWERS.due("length told", length, text.length());
        return text;
    }

    private static void tellTranscripts() {
        GeneBook x = on("ACGTNAACCGGTTN", "c . gene 1 14 . + . ID=g", "c . gene 1 14 . - . ID=h",
                "c . exon 6 9 . + . PARENT=m", "c . mRNA 1 14 . + . ID=m;PARENT=g",
                "c . exon 1 2 . + . PARENT=m", "c . mRNA 1 14 . - . ID=n;PARENT=h",
                "c . exon 1 5 . - . PARENT=n", "c . exon 8 10 . - . PARENT=n", "c . exon 13 14 . - . PARENT=n");
        ANSWERS.due("on +", "ACAACC", told(x, 3, 0));
        ANSWERS.due("on -", "NACGGNACGT", told(x, 5, 0));
        String all = "ACGTN".repeat(24);
        GeneBook y = on(all, "c . gene 1 120 . - . ID=g", "c . mRNA 1 120 . - . ID=m;PARENT=g",
                "c . exon 1 120 . - . PARENT=m");
        ANSWERS.due("all of it", "NACGT".repeat(24), told(y, 1, 0));
    }

    private static GeneBook coded(String bases, char strand, int phase) {
        String tail = " " + bases.length() + " . " + strand + " ";
        return on(bases, "c . gene 1" + tail + ". ID=g", "c . mRNA 1" + tail + ". ID=m;PARENT=g",
                "c . exon 1" + tail + ". PARENT=m", "c . CDS 1" + tail + phase + " PARENT=m");
    }

    private static void tellProteins() {
        ANSWERS.due("phase 0", "MA", told(coded("ATGGCCAT", '+', 0), 1, 1));
        ANSWERS.due("phase 1", "WP", told(coded("ATGGCCAT", '+', 1), 1, 1));
        ANSWERS.due("phase 2", "GH", told(coded("ATGGCCAT", '+', 2), 1, 1));
        ANSWERS.due("on -", "MA", told(coded("ATGGCCAT", '-', 0), 1, 1));
        ANSWERS.due("on -, phase 1", "WP", told(coded("ATGGCCAT", '-', 1), 1, 1));
        ANSWERS.due("on in spite of *", "*M*", told(coded("TAAATGTAG", '+', 0), 1, 1));
        ANSWERS.due("too short", "", told(coded("AT", '+', 0), 1, 1));
        ANSWERS.due("shorter than its phase", "", told(coded("A", '+', 2), 1, 1));
        ANSWERS.due("as long as its phase", "", told(coded("AC", '+', 2), 1, 2));
        GeneBook x = on("AAATGGCCTTTAAACCC", "c . gene 1 17 . + . ID=g", "c . mRNA 1 17 . + . ID=m;PARENT=g",
                "c . exon 1 17 . + . PARENT=m", "c . CDS 12 17 . + 1 PARENT=m", "c . CDS 1 1 . + 2 PARENT=m");
        ANSWERS.due("a phase that goes over to the next CDS", "N", told(x, 1, 1));
        GeneBook y = on("ATGCCCGTA", "c . gene 1 9 . + . ID=g", "c . mRNA 1 9 . + . ID=m;PARENT=g",
                "c . exon 7 9 . + . PARENT=m", "c . exon 1 4 . + . PARENT=m",
                "c . CDS 7 8 . + 2 PARENT=m", "c . CDS 1 4 . + 0 PARENT=m");
        ANSWERS.due("spliced", "MR", told(y, 1, 1));
        ANSWERS.due("the exons as they are", "ATGCGTA", told(y, 1, 0));
    }

    private static void tellCodons() {
        String one = "FFLLSSSSYY**CC*WLLLLPPPPHHQQRRRRIIIMTTTTNNKKSSRRVVVVAAAADDEEGGGG";
        String two = "FFLLSSSSYY**CCWWLLLLPPPPHHQQRRRRIIMMTTTTNNKKSS**VVVVAAAADDEEGGGG";
        for (int half = 0; half < 2; half++) {
            StringBuilder bases = new StringBuilder();
            for (int k = 32 * half; k < 32 * half + 32; k++) {
                bases.append("TCAG".charAt(k / 16)).append("TCAG".charAt(k / 4 % 4)).append("TCAG".charAt(k % 4));
            }
            GeneBook x = coded(bases.toString(), '+', 0);
            ANSWERS.due("code 1", one.substring(32 * half, 32 * half + 32), told(x, 1, 1));
            ANSWERS.due("code 2", two.substring(32 * half, 32 * half + 32), told(x, 1, 2));
        }
        GeneBook x = coded("GCNCTNTANATNNTGNNNAGNTGNTTNNTATCNCNG", '+', 0);
        ANSWERS.due("N by code 1", "ALXXXXXXXXSX", told(x, 1, 1));
        ANSWERS.due("N by code 2", "ALXXXXXXXXSX", told(x, 1, 2));
        ANSWERS.due("N on -", "AMX", told(coded("TANCATNGC", '-', 0), 1, 1));
    }

    // Promise 12
    private static void frames() {
        GeneBook x = on("ATGATGAAATAA");
        due("the first ATG alone", 1, () -> x.frames(1, 0));
        due("at least 4", 1, () -> x.frames(1, 4));
        due("at least 5", 0, () -> x.frames(1, 5));
        due("any number", 1, () -> x.frames(1, Integer.MIN_VALUE));
        due("any great number", 0, () -> x.frames(1, Integer.MAX_VALUE));
        for (int code : new int[] {0, 3, -1, Integer.MIN_VALUE, Integer.MAX_VALUE}) {
            ANSWERS.thrown("code " + code, IAE, () -> x.frames(code, 0));
        }
        due("no end", 0, () -> on("ATGAAAAAA").frames(1, 0));
        due("an end that is cut off", 0, () -> on("ATGAAATA").frames(1, 0));
        due("no beginning", 0, () -> on("AAAAAATAA").frames(1, 0));
        due("out of step", 0, () -> on("ATGATAA").frames(1, 0));
        due("the least one", 1, () -> on("ATGTAA").frames(1, 2));
        due("no base", 0, () -> on("").frames(1, 0));
        due("two bases", 0, () -> on("AT").frames(2, 0));
        due("an ATG without bases behind", 0, () -> on("ATG").frames(1, -5));
        due("on the complement", 1, () -> on("TTACAT").frames(1, 2));
        due("two behind one another", 2, () -> on("ATGTAAATGTAG").frames(1, 0));
        due("three ways at once", 3, () -> on("ATGCATGCATGTAACTAACTAA").frames(1, 0));
        due("N is no ATG and no *", 0, () -> on("ANGAAATAA").frames(1, 0));
        due("N ends nothing", 0, () -> on("ATGTANTNA").frames(1, 0));
        due("N goes on", 1, () -> on("ATGNNNTAA").frames(1, 3));
    }

    private static void framesOfBothCodes() {
        due("TGA ends by 1", 1, () -> on("ATGTGA").frames(1, 0));
        due("TGA does not by 2", 0, () -> on("ATGTGA").frames(2, 0));
        due("AGA does not by 1", 0, () -> on("ATGAGA").frames(1, 0));
        due("AGA ends by 2", 1, () -> on("ATGAGA").frames(2, 0));
        due("AGG ends by 2", 1, () -> on("ATGAGG").frames(2, 0));
        due("ATA is no ATG by 2", 0, () -> on("ATATAA").frames(2, 0));
        GeneBook x = on("ATGAGAATGTGATAA");
        due("one by 1", 1, () -> x.frames(1, 0));
        due("it ends with TGA", 4, () -> x.frame(1, 0, 0, 0));
        due("two by 2", 2, () -> x.frames(2, 0));
        due("the first ends with AGA", 2, () -> x.frame(2, 0, 0, 0));
        due("the second ends with TAA", 3, () -> x.frame(2, 0, 1, 0));
    }

    // Promise 13
    private static void frame() {
        // ATG at 3 (to TAG, 4 codons), at 7 (to TAA, 5 codons), and on the complement at place 32.
        String bases = "CC" + "ATGCATGCATAG" + "CCCC" + "TAA" + "GG" + "TTACCCCAT";
        GeneBook x = on(bases);
        int[][] want = frameRows(x);
        ANSWERS.due("how many", 3, want.length);
        int[][] due = {{4, 3, 0}, {5, 7, 0}, {3, 32, 1}};
        for (int k = 0; k < Math.min(3, want.length); k++) {
            for (int part = 0; part < 3; part++) {
                ANSWERS.due("frame " + k + " " + part, due[k][part], want[k][part]);
            }
        }
        due("only those with so many codons count", 7, () -> x.frame(1, 5, 0, 1));
        ANSWERS.thrown("so they are fewer", IOOBE, () -> x.frame(1, 5, 1, 1));
        for (int k : new int[] {-1, 3, Integer.MIN_VALUE, Integer.MAX_VALUE}) {
            ANSWERS.thrown("frame " + k, IOOBE, () -> x.frame(1, 0, k, 0));
        }
        for (int part : new int[] {-1, 3, Integer.MIN_VALUE, Integer.MAX_VALUE}) {
            ANSWERS.thrown("part " + part, IOOBE, () -> x.frame(1, 0, 0, part));
        }
        for (int code : new int[] {0, 3, -1, Integer.MIN_VALUE, Integer.MAX_VALUE}) {
            ANSWERS.thrown("code " + code, IAE, () -> x.frame(code, 0, 0, 0));
            ANSWERS.thrown("code first " + code, IAE, () -> x.frame(code, 0, 99, 99));
        }
    }

    private static int[][] frameRows(GeneBook x) {
        int[][] rows = new int[x.frames(1, 0)][3];
        for (int k = 0; k < rows.length; k++) {
            for (int part = 0; part < 3; part++) {
                rows[k][part] = x.frame(1, 0, k, part);
            }
        }
        return rows;
    }

    // Promise 14
    private static void write() {
        GeneBook x = on("ACGTACGTACGT", "c . CDS 2 9 . + 0 NOTE=n;PARENT=m", "b . exon 2 9 . + . PARENT=m;ID=e",
                "a . mRNA 2 9 . + . NOTE=q;PARENT=g;ID=m", "d . gene 2 9 . + . ID=g", "z . gene 2 10 . - . NOTE=9;ID=h",
                "y . gene 1 1 . - . ID=i", "x . exon 2 9 . - . PARENT=q", "w . gene 10 12 . + . ID=j",
                "v . gene 3 12 . + . ID=k");
        String want = Texts.tabs("y . gene 1 1 . - . ID=i\nz . gene 2 10 . - . ID=h;NOTE=9\n"
                + "d . gene 2 9 . + . ID=g\na . mRNA 2 9 . + . ID=m;PARENT=g;NOTE=q\n"
                + "b . exon 2 9 . + . ID=e;PARENT=m\nx . exon 2 9 . - . PARENT=q\n"
                + "c . CDS 2 9 . + 0 PARENT=m;NOTE=n\nv . gene 3 12 . + . ID=k\nw . gene 10 12 . + . ID=j\n");
        due("write", want.length(), x::write);
        ANSWERS.due("written", want, Texts.out(x));
        due("again", want.length(), x::write);
        due("a book that is not whole is written", 6 + 16, x::fault);
        x.clear();
        due("nothing", 0, x::write);
        due("OUT is empty then", 0, () -> x.out(0));

        GeneBook z = onTens(1);
        ANSWERS.thrown("a line that is no feature", IAE,
                () -> Texts.add(z, Texts.tabs("long . gene 1 10 . + . ID=g;ID=h")));
        Texts.add(z, Texts.tabs("c . gene 1 2 . + . NOTE=n;ID=g"));
        z.write();
        ANSWERS.due("nothing of it is written", Texts.tabs("c . gene 1 2 . + . ID=g;NOTE=n\n"), Texts.out(z));

        Run y = Run.on("ACGTACGTAC".repeat(12));
        StringBuilder all = new StringBuilder();
        for (int i = 0; i < 14; i++) {
            String tail = Texts.tabs(" . mRNA 100 120 . + . ID=abcd" + (10 + i) + ";PARENT=abcdef;NOTE=uvwxyz");
            String line = "~".repeat(72 - tail.length()) + tail;
            y.put(line);
            all.append(line).append('\n');
        }
        ANSWERS.due("the longest book", String.valueOf(14 * 73), y.write().value());
        ANSWERS.due("all of it", all.toString(), y.outText());
    }

    // Promise 15
    private static void out() {
        GeneBook x = on("ACGT", "c . gene 1 4 . + . ID=g");
        due("before", 0, () -> x.out(0));
        int length = x.write();
        due("the first", 'c', () -> x.out(0));
        due("a tab", 9, () -> x.out(1));
        due("the last", 10, () -> x.out(length - 1));
        due("behind it", 0, () -> x.out(length));
        for (int i : new int[] {-1, 1022, 1023, Integer.MIN_VALUE, Integer.MAX_VALUE}) {
            due("out " + i, 0, () -> x.out(i));
        }
        GeneBook y = coded("ATGTAA", '+', 0);
        y.write();
        y.tell(1, 1);
        ANSWERS.due("a shorter OUT has nothing of the longer one", "M*", Texts.out(y));
        due("nor far behind", 0, () -> y.out(20));
    }
}
