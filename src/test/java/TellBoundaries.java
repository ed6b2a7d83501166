/** Promise 11, and the terms of the transcript, of the code, of codons and of the protein. */
final class TellBoundaries {
    private static final String IAE = "IllegalArgumentException";
    private static final String ISE = "IllegalStateException";
    private static final String UOE = "UnsupportedOperationException";
    private static final String IOOBE = "IndexOutOfBoundsException";
    private static final String ONE = "FFLLSSSSYY**CC*WLLLLPPPPHHQQRRRRIIIMTTTTNNKKSSRRVVVVAAAADDEEGGGG";
    private static final String TWO = "FFLLSSSSYY**CCWWLLLLPPPPHHQQRRRRIIMMTTTTNNKKSS**VVVVAAAADDEEGGGG";
    private static final int[][] ORDERS = {{0, 1, 2}, {0, 2, 1}, {1, 0, 2}, {1, 2, 0}, {2, 0, 1}, {2, 1, 0}};

    private final Clauses c;

    TellBoundaries(Clauses clauses) {
        c = clauses;
    }

    void test() {
        c.section("Terms");
        c.clause("THE TRANSCRIPT of an mRNA are the bases of its exons, one after the other in order",
                this::transcripts);
        c.clause("each turned to its complement on the strand -", this::turnedTranscripts);
        c.clause("ITS CODE are those of its CDSs, likewise", this::codes);
        c.clause("without as many at the beginning as the phase of the first one says", this::phases);
        c.clause("A CODON are three bases.", this::threeBases);
        c.clause("Its number is 16 a + 4 b + c, with 0 for T, 1 for C, 2 for A, 3 for G.", this::numbers);
        c.clause("By code 1 a codon with number k stands for letter k of " + ONE, () -> letters(1, ONE));
        c.clause("by code 2 of " + TWO, () -> letters(2, TWO));
        c.clause("A codon with an N stands for the letter that all codons without N that it may be stand for, "
                + "if that is one", this::codonsWithN);
        c.clause("else for X", this::codonsForX);
        c.clause("THE PROTEIN of an mRNA by a code are the letters of its code's codons one after the other",
                this::proteins);
        c.clause("(bases that are left at the end, one or two, count for nothing)", this::basesLeft);
        promise();
    }

    private void promise() {
        c.section("Promise 11: tell");
        c.clause("The TRANSCRIPT of feature k goes into OUT (code is 0), or its PROTEIN by a code", this::goesIntoOut);
        c.clause("how long it is", this::howLong);
        c.clause("IndexOutOfBoundsException when there is no such feature", this::noSuchFeature);
        c.clause("or code is not 0 .. 2", this::noSuchCode);
        c.clause("IllegalArgumentException when it is no mRNA", this::noMrna);
        c.clause("IllegalStateException when the book is not whole", this::notWhole);
        c.clause("UnsupportedOperationException when it has no exon", this::noExon);
        c.clause("(of a protein: no CDS)", this::noCds);
    }

    private void told(String want, Run x, int k, int code) {
        c.due(want.length(), x.tell(k, code));
        c.text("OUT", want, x.outText());
    }

    /** A gene, an mRNA (number 1), and parts on a strand: "exon 1 2" or "CDS 1 2 0". */
    private static Run mrna(String bases, char strand, String... parts) {
        String tail = " " + bases.length() + " . " + strand + " . ";
        Run x = Run.on(bases, "c . gene 1" + tail + "ID=g", "c . mRNA 1" + tail + "ID=m;PARENT=g");
        for (String part : parts) {
            String[] words = part.split(" ");
            String phase = words.length == 4 ? words[3] : ".";
            x.put(String.join("\t", "c", ".", words[0], words[1], words[2], ".", "" + strand, phase, "PARENT=m"));
        }
        return x;
    }

    /** All of the bases are one exon and one CDS. */
    private static Run coded(String bases, char strand, int phase) {
        String all = " 1 " + bases.length();
        return mrna(bases, strand, "exon" + all, "CDS" + all + " " + phase);
    }

    private void transcripts() {
        String[] parts = {"exon 1 1", "exon 2 4", "exon 8 8"};
        for (int[] order : ORDERS) {
            told("NACGC", mrna("NACGTTAC", '+', parts[order[0]], parts[order[1]], parts[order[2]]), 1, 0);
        }
        told("C", mrna("NACGTTAC", '+', "exon 8 8"), 1, 0);
        String all = "NACGTTAC".repeat(15);
        told(all, mrna(all, '+', "exon 1 120"), 1, 0);
        told(all, mrna(all, '+', "exon 60 120", "exon 1 59"), 1, 0);
        // Each mRNA has its own exons.
        Run x = mrna("NACGTTAC", '+', "exon 1 2");
        x.put(Texts.tabs("c . mRNA 1 8 . + . ID=n;PARENT=g"));
        x.put(Texts.tabs("c . exon 2 5 . + . PARENT=n"));
        told("NA", x, 1, 0);
        told("ACGT", x, 3, 0);
        // As many as the book has room for.
        String[] many = new String[12];
        for (int i = 0; i < 12; i++) {
            many[i] = "exon " + (24 - 2 * i) + " " + (24 - 2 * i);
        }
        told("AGTCAGTCAGTC", mrna("NACGTTAC".repeat(3), '+', many), 1, 0);
    }

    private void turnedTranscripts() {
        String[] parts = {"exon 1 1", "exon 2 4", "exon 8 8"};
        for (int[] order : ORDERS) {
            told("GCGTN", mrna("NACGTTAC", '-', parts[order[0]], parts[order[1]], parts[order[2]]), 1, 0);
        }
        told("G", mrna("NACGTTAC", '-', "exon 8 8"), 1, 0);
        told("N", mrna("NACGTTAC", '-', "exon 1 1"), 1, 0);
        told("GTAACGTN".repeat(15), mrna("NACGTTAC".repeat(15), '-', "exon 1 59", "exon 60 120"), 1, 0);
        // Places are counted from the beginning, so bases that come later move nothing.
        Run x = mrna("NACGTTAC", '-', "exon 2 4", "exon 6 8");
        told("GTACGT", x, 1, 0);
        x.give("GG");
        told("GTACGT", x, 1, 0);
    }

    private void codes() {
        // ATG GCC TGG: the exons are longer than the CDSs.
        told("MAW", mrna("CATGGCCTTTGGAA", '+', "exon 1 14", "CDS 2 7 0", "CDS 10 12 0"), 1, 1);
        told("MAW", mrna("CATGGCCTTTGGAA", '+', "exon 1 14", "CDS 10 12 0", "CDS 2 7 0"), 1, 1);
        told("MAW", mrna("TTCCAAAGGCCATG", '-', "exon 1 14", "CDS 3 5 0", "CDS 8 13 0"), 1, 1);
        told("MAW", mrna("TTCCAAAGGCCATG", '-', "exon 1 14", "CDS 8 13 0", "CDS 3 5 0"), 1, 1);
        // A codon over two CDSs: AT + G.
        told("M", mrna("CATCCG", '+', "exon 1 6", "CDS 6 6 1", "CDS 2 3 0"), 1, 1);
        told("M", mrna("CGGATG", '-', "exon 1 6", "CDS 1 1 1", "CDS 4 5 0"), 1, 1);
        // Each mRNA has its own CDSs.
        Run x = mrna("ATGTGG", '+', "exon 1 6", "CDS 1 3 0");
        x.put(Texts.tabs("c . mRNA 1 6 . + . ID=n;PARENT=g"));
        x.put(Texts.tabs("c . exon 1 6 . + . PARENT=n"));
        x.put(Texts.tabs("c . CDS 4 6 . + 0 PARENT=n"));
        told("M", x, 1, 1);
        told("W", x, 4, 1);
    }

    private void phases() {
        told("MA", coded("ATGGCCAT", '+', 0), 1, 1);
        told("WP", coded("ATGGCCAT", '+', 1), 1, 1);
        told("GH", coded("ATGGCCAT", '+', 2), 1, 1);
        told("MA", coded("ATGGCCAT", '-', 0), 1, 1);
        told("WP", coded("ATGGCCAT", '-', 1), 1, 1);
        told("GH", coded("ATGGCCAT", '-', 2), 1, 1);
        // The first one's alone: the others' bases are all there.
        told("HG", mrna("CCATGGTTCCC", '+', "exon 1 11", "CDS 1 4 1", "CDS 5 7 0"), 1, 1);
        told("QG", mrna("CCATGGGTCCC", '+', "exon 1 11", "CDS 5 8 1", "CDS 1 3 1"), 1, 1);
        // The first one is shorter than its phase, or just as long.
        told("W", mrna("ACTGGC", '+', "exon 1 6", "CDS 1 1 2", "CDS 2 5 1"), 1, 1);
        told("W", mrna("GCCAGT", '-', "exon 1 6", "CDS 6 6 2", "CDS 2 5 1"), 1, 1);
        told("W", mrna("ACTGGC", '+', "exon 1 6", "CDS 1 2 2", "CDS 3 5 0"), 1, 1);
        told("W", mrna("ATGGC", '+', "exon 1 5", "CDS 1 1 1", "CDS 2 4 0"), 1, 1);
        for (int code = 1; code <= 2; code++) {
            told("", coded("A", '+', 2), 1, code);
            told("", coded("A", '-', 1), 1, code);
            told("", coded("AC", '+', 2), 1, code);
            told("", mrna("ACT", '+', "exon 1 3", "CDS 1 1 2", "CDS 3 3 1"), 1, code);
        }
    }

    private void threeBases() {
        for (int n = 1; n <= 120; n += 7) {
            Run x = coded("A".repeat(n), '+', 0);
            told("K".repeat(n / 3), x, 1, 1);
        }
        told("K".repeat(40), coded("A".repeat(120), '+', 0), 1, 1);
        told("K".repeat(39), coded("A".repeat(120), '+', 1), 1, 1);
    }

    private void numbers() {
        // Codons whose letter no other place of the three gives: a, b and c each count.
        told("MWFYHQND", coded("ATGTGGTTTTATCATCAAAATGAT", '+', 0), 1, 1);
        told("F", coded("TTT", '+', 0), 1, 1);
        told("G", coded("GGG", '+', 0), 1, 1);
        told("P", coded("CCC", '+', 0), 1, 1);
        told("K", coded("AAA", '+', 0), 1, 1);
    }

    private static String codon(int k) {
        return "" + "TCAG".charAt(k / 16) + "TCAG".charAt(k / 4 % 4) + "TCAG".charAt(k % 4);
    }

    private void letters(int code, String letters) {
        for (int k = 0; k < 64; k++) {
            told(letters.substring(k, k + 1), coded(codon(k), '+', 0), 1, code);
        }
    }

    /** The one letter that all codons of this form have, or X, counted from the letters. */
    private static String letterOf(String form, String letters) {
        String found = "";
        for (int k = 0; k < 64; k++) {
            boolean fits = true;
            for (int i = 0; i < 3; i++) {
                fits &= form.charAt(i) == 'N' || form.charAt(i) == codon(k).charAt(i);
            }
            if (fits && !found.contains(letters.substring(k, k + 1))) {
                found += letters.substring(k, k + 1);
            }
        }
        return found.length() == 1 ? found : "X";
    }

    private void codonsWithN() {
        for (String pair : new String[] {"CTL", "GTV", "TCS", "CCP", "ACT", "GCA", "CGR", "GGG"}) {
            told(pair.substring(2), coded(pair.substring(0, 2) + "N", '+', 0), 1, 1);
            told(pair.substring(2), coded(pair.substring(0, 2) + "N", '+', 0), 1, 2);
        }
        // Turned around, the N is the last one.
        told("A", coded("NGC", '-', 0), 1, 1);
        for (String a : "TCAGN".split("")) {
            for (String b : "TCAGN".split("")) {
                for (String d : "TCAGN".split("")) {
                    Run x = coded(a + b + d, '+', 0);
                    told(letterOf(a + b + d, ONE), x, 1, 1);
                    told(letterOf(a + b + d, TWO), x, 1, 2);
                }
            }
        }
    }

    private void codonsForX() {
        String[] none = {
            "NNN", "TTN", "TAN", "TGN", "CAN", "ATN", "AAN", "AGN", "GAN", "NTG", "ANG", "NGA", "TNA", "CNN",
            "NCN", "NNC", "NTA", "NTT", "NAA", "TNG", "NCC", "NGG", "GNG"};
        for (String form : none) {
            told("X", coded(form, '+', 0), 1, 1);
            told("X", coded(form, '+', 0), 1, 2);
        }
    }

    private void proteins() {
        told("*M**", coded("TAAATGTAGTGA", '+', 0), 1, 1);
        told("*M*W", coded("TAAATGTAGTGA", '+', 0), 1, 2);
        told("MIRR", coded("ATGATAAGAAGG", '+', 0), 1, 1);
        told("MM**", coded("ATGATAAGAAGG", '+', 0), 1, 2);
        String bases = "ATGATAAGATGANNN".repeat(8);
        told("MIR*X".repeat(8), coded(bases, '+', 0), 1, 1);
        told("MM*WX".repeat(8), coded(bases, '+', 0), 1, 2);
    }

    private void basesLeft() {
        String bases = "ATGGCCTGG";
        String[] letters = {"", "", "M", "M", "M", "MA", "MA", "MA", "MAW"};
        for (int n = 1; n <= 9; n++) {
            Run x = coded(bases.substring(0, n), '+', 0);
            told(letters[n - 1], x, 1, 1);
            told(letters[n - 1], x, 1, 2);
        }
        told("", mrna("ATGG", '+', "exon 1 4", "CDS 1 1 0", "CDS 4 4 2"), 1, 1);
    }

    private void goesIntoOut() {
        Run x = mrna("ATGGCCAT", '+', "exon 1 8", "CDS 1 6 0");
        x.write();
        told("ATGGCCAT", x, 1, 0);
        told("MA", x, 1, 1);
        c.due(0, x.out(2));
        told("MA", x, 1, 2);
        told("ATGGCCAT", x, 1, 0);
        c.due(0, x.out(8));
        c.due(0, x.out(8 + 1));
        // Bases that come later are not the exon's.
        x.give("CCCC");
        told("ATGGCCAT", x, 1, 0);
        Run empty = coded("AT", '+', 0);
        empty.write();
        told("", empty, 1, 1);
        c.due(0, empty.out(0));
        // The book is as it was.
        Run y = mrna("ATGGCCAT", '-', "exon 6 8", "exon 1 5", "CDS 1 3 0");
        String before = y.written();
        y.tell(1, 0);
        y.tell(1, 1);
        c.text("the book", before, y.written());
        c.due(0, y.fault());
    }

    private void howLong() {
        for (int n : new int[] {1, 2, 3, 4, 5, 6, 119, 120}) {
            Run x = coded(Run.some(n), '-', 0);
            c.due(n, x.tell(1, 0));
            c.due(n / 3, x.tell(1, 1));
            c.due(n / 3, x.tell(1, 2));
        }
        // What was in OUT before does not count.
        Run x = coded(Run.some(6), '+', 0);
        x.write();
        c.due(2, x.tell(1, 1));
        c.due(6, x.tell(1, 0));
    }

    private void noSuchFeature() {
        Run x = mrna("ATGGCC", '+', "exon 1 6", "CDS 1 6 0");
        x.tell(1, 1);
        for (int k : new int[] {-1, -2, 4, 5, 13, 14, 15, 257, Integer.MIN_VALUE, Integer.MAX_VALUE}) {
            for (int code = -1; code <= 3; code++) {
                int asked = code;
                c.refused(IOOBE, x, y -> y.tell(k, asked));
            }
        }
        Run empty = new Run();
        c.refused(IOOBE, empty, y -> y.tell(0, 0));
        x.clear();
        c.refused(IOOBE, x, y -> y.tell(1, 0));
    }

    private void noSuchCode() {
        Run x = mrna("ATGGCC", '+', "exon 1 6", "CDS 1 6 0");
        x.write();
        for (int code : new int[] {-1, -2, 3, 4, 256, 257, Integer.MIN_VALUE, Integer.MAX_VALUE}) {
            for (int k = 0; k < 4; k++) {
                int asked = k;
                c.refused(IOOBE, x, y -> y.tell(asked, code));
            }
        }
        told("ATGGCC", x, 1, 0);
        told("MA", x, 1, 1);
        told("MA", x, 1, 2);
    }

    private void noMrna() {
        Run x = mrna("ATGGCC", '+', "exon 1 6", "CDS 1 6 0");
        x.write();
        for (int k : new int[] {0, 2, 3}) {
            for (int code = 0; code < 3; code++) {
                int asked = code;
                c.refused(IAE, x, y -> y.tell(k, asked));
            }
        }
        told("MA", x, 1, 1);
    }

    private void notWhole() {
        String[] faults = {
            "c . exon 1 1 . + . PARENT=x", "c . exon 1 1 . + . PARENT=g", "c . exon 9 9 . - . PARENT=m",
            "c . exon 1 1 . + . PARENT=m", "c . CDS 8 9 . + 0 PARENT=m", "c . CDS 3 4 . + 0 PARENT=m",
            "c . CDS 5 6 . + 1 PARENT=m"};
        for (String fault : faults) {
            Run x = mrna("ATGGCCAAA", '+', "exon 1 8", "CDS 1 3 0");
            x.put(Texts.tabs("c . gene 1 9 . - . ID=h"));
            x.put(Texts.tabs("c . mRNA 1 9 . - . ID=n;PARENT=h"));
            x.put(Texts.tabs("c . exon 1 9 . - . PARENT=n"));
            x.put(Texts.tabs("c . CDS 1 9 . - 0 PARENT=n"));
            c.due(9, x.tell(5, 0));
            x.put(Texts.tabs(fault));
            for (int code = 0; code < 3; code++) {
                int asked = code;
                c.refused(ISE, x, y -> y.tell(1, asked));
                c.refused(ISE, x, y -> y.tell(5, asked));
            }
        }
        // It may be whole again.
        Run x = mrna("ATGGCC", '+', "exon 1 6");
        x.put(Texts.tabs("c . exon 1 3 . + . PARENT=n"));
        c.refused(ISE, x, y -> y.tell(1, 0));
        x.put(Texts.tabs("c . mRNA 1 3 . + . ID=n;PARENT=g"));
        told("ATGGCC", x, 1, 0);
        told("ATG", x, 4, 0);
    }

    private void noExon() {
        Run x = mrna("ATGGCC", '+');
        x.write();
        c.refused(UOE, x, y -> y.tell(1, 0));
        x.put(Texts.tabs("c . mRNA 1 6 . + . ID=n;PARENT=g"));
        x.put(Texts.tabs("c . exon 1 6 . + . PARENT=n"));
        c.refused(UOE, x, y -> y.tell(1, 0));
        told("ATGGCC", x, 2, 0);
        x.put(Texts.tabs("c . mRNA 1 6 . + . PARENT=g"));
        c.refused(UOE, x, y -> y.tell(4, 0));
        x.put(Texts.tabs("c . exon 2 2 . + . PARENT=m"));
        told("T", x, 1, 0);
    }

    private void noCds() {
        Run x = mrna("ATGGCC", '+', "exon 1 6");
        x.write();
        for (int code = 1; code <= 2; code++) {
            int asked = code;
            c.refused(UOE, x, y -> y.tell(1, asked));
            c.refused(UOE, mrna("ATGGCC", '+'), y -> y.tell(1, asked));
        }
        told("ATGGCC", x, 1, 0);
        x.put(Texts.tabs("c . mRNA 1 6 . + . ID=n;PARENT=g"));
        x.put(Texts.tabs("c . exon 1 6 . + . PARENT=n"));
        x.put(Texts.tabs("c . CDS 4 6 . + 0 PARENT=n"));
        c.refused(UOE, x, y -> y.tell(1, 1));
        told("A", x, 3, 1);
        x.put(Texts.tabs("c . CDS 1 1 . + 0 PARENT=m"));
        told("", x, 1, 1);
    }
}
