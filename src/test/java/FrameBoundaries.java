/** Promises 12 and 13, and the terms of open frames. */
final class FrameBoundaries {
    private static final String IAE = "IllegalArgumentException";
    private static final String IOOBE = "IndexOutOfBoundsException";
    private static final int[] NO_CODES = {0, 3, -1, 4, 257, 258, Integer.MIN_VALUE, Integer.MAX_VALUE};
    private static final String TWO_FRAMES = "ATGTAATTACAT";
    /** With 2, 3 and 4 codons at places 1, 7 and 16, and on the complement with 3 at place 37. */
    private static final String FOUR_FRAMES = "ATGTAAATGAAATAAATGAAAAAATAACTTACCCCAT";

    private final Clauses c;

    FrameBoundaries(Clauses clauses) {
        c = clauses;
    }

    void test() {
        c.section("Terms");
        c.clause("AN OPEN FRAME of a row of bases by a code is a stretch of codons one after the other",
                this::stretches);
        c.clause("beginning with ATG", this::beginnings);
        c.clause("of which the last one is *", this::ends);
        c.clause("and no other is", this::noOtherEnd);
        c.clause("and before which, back to the beginning of the row by threes", this::startsBefore);
        c.clause("or to a codon that is *, there is no ATG", this::endsBefore);
        c.clause("The open frames of the sequence: those of its bases, and those of its complement.",
                this::bothStrands);
        c.clause("In order: first those of the bases, by where they begin", this::orderOfBases);
        c.clause("then those of the complement, by where they begin in that", this::orderOfComplement);
        c.section("Promise 12: frames");
        c.clause("How many OPEN FRAMES by a code", this::howMany);
        c.clause("with at least so many codons (any number; the last one counts, too) the sequence has",
                this::atLeastSoMany);
        c.clause("IllegalArgumentException when code is not 1 or 2.", this::framesOfNoCode);
        c.section("Promise 13: frame");
        c.clause("Of the k-th one of these (0 the first)", this::kthOfThese);
        c.clause("part 0 how many codons it has", this::howManyCodons);
        c.clause("1 the place of the sequence where its first base is", this::placesOfFirst);
        c.clause("2 its strand (0, 1)", this::strands);
        c.clause("IllegalArgumentException when code is not 1 or 2", this::frameOfNoCode);
        c.clause("IndexOutOfBoundsException when there is none", this::noSuchFrame);
        c.clause("or no such part", this::noSuchPart);
    }

    /** All frames by a code are these, each "codons place strand". */
    private void frames(int code, String bases, String... want) {
        Run x = Run.on(bases);
        String before = x.state();
        c.due(want.length, x.frames(code, 0));
        for (int k = 0; k < want.length; k++) {
            String[] parts = want[k].split(" ");
            for (int part = 0; part < 3; part++) {
                c.due(parts[part], x.frame(code, 0, k, part));
            }
        }
        c.due(IOOBE, x.frame(code, 0, want.length, 0));
        c.text("asking changes nothing", before, x.state());
    }

    private void both(String bases, String... want) {
        frames(1, bases, want);
        frames(2, bases, want);
    }

    private void stretches() {
        both("");
        both("A");
        both("AT");
        both("ATG");
        both("ATGT");
        both("ATGTA");
        both("ATGTAA", "2 1 0");
        both("ATGATAA");
        both("ATGAATAA");
        both("ATGAAATAA", "3 1 0");
        both("ATGAAATA");
        both("ATG" + "AAA".repeat(38) + "TAA", "40 1 0");
        both("ATG" + "AAA".repeat(39));
        both("TTA" + "TTT".repeat(38) + "CAT", "40 120 1");
        both("A".repeat(114) + "ATGTAA", "2 115 0");
        both("ATGNNNTAA", "3 1 0");
    }

    private void beginnings() {
        for (String begin : new String[] {
                "NTG", "ANG", "ATN", "NNN", "CTG", "GTG", "TTG", "AAG", "ACG", "AGG", "ATA", "ATC", "ATT", "GTA"}) {
            both(begin + "TAG");
        }
        both("ATGTAG", "2 1 0");
        both("CATGTAG", "2 2 0");
        both("CCATGTAG", "2 3 0");
        // By code 2 ATA stands for M, as ATG does, but no frame begins with it.
        frames(2, "ATAAAATAA");
        frames(2, "ATAATGTAA", "2 4 0");
    }

    private void ends() {
        for (String end : new String[] {"TAA", "TAG"}) {
            both("ATG" + end, "2 1 0");
        }
        frames(1, "ATGTGA", "2 1 0");
        frames(2, "ATGTGA");
        for (String end : new String[] {"AGA", "AGG"}) {
            frames(1, "ATG" + end);
            frames(2, "ATG" + end, "2 1 0");
        }
        for (String end : new String[] {
                "TAN", "TNA", "NAA", "TGN", "AGN", "NGA", "NNN", "TAT", "TAC", "TGG", "AGC", "CAA"}) {
            both("ATG" + end);
        }
    }

    private void noOtherEnd() {
        both("ATGTAATAA", "2 1 0");
        both("ATGCCCTAGCCCTAA", "3 1 0");
        frames(1, "ATGTGATAA", "2 1 0");
        frames(2, "ATGTGATAA", "3 1 0");
        frames(1, "ATGAGATAA", "3 1 0");
        frames(2, "ATGAGATAA", "2 1 0");
    }

    private void startsBefore() {
        both("ATGATGTAA", "3 1 0");
        both("ATGCCCATGTAA", "4 1 0");
        both("ATGATGATGATGTAA", "5 1 0");
        both("CATGCCCATGTAA", "4 2 0");
        both("CCATGCCCATGTAA", "4 3 0");
        // Not by threes: these are two ways.
        both("ATGCATGTAA", "2 5 0");
        both("ATGCCATGTAA", "2 6 0");
        // Far back, at the very beginning of the row.
        both("ATG" + "CCC".repeat(37) + "ATGTAA", "40 1 0");
        // A codon with an N that may be ATG, or *, is neither.
        both("ANGATGTAA", "2 4 0");
        both("ATGTANATGTAA", "4 1 0");
    }

    private void endsBefore() {
        both("ATGTAAATGTAG", "2 1 0", "2 7 0");
        both("ATGTAACCCATGTAG", "2 1 0", "2 10 0");
        both("TAAATGTAG", "2 4 0");
        both("ATGTAAATGATGTAG", "2 1 0", "3 7 0");
        both("ATGTAATAAATGTAG", "2 1 0", "2 10 0");
        frames(1, "ATGTGAATGTAA", "2 1 0", "2 7 0");
        frames(2, "ATGTGAATGTAA", "4 1 0");
        frames(1, "ATGAGAATGTAA", "4 1 0");
        frames(2, "ATGAGAATGTAA", "2 1 0", "2 7 0");
        // A * that is out of step is none.
        both("ATGCTAACCATGTAG", "5 1 0");
    }

    private void bothStrands() {
        both("ATGTAA", "2 1 0");
        both("TTACAT", "2 6 1");
        both(TWO_FRAMES, "2 1 0", "2 12 1");
        // Each strand in three ways.
        for (int before = 0; before < 3; before++) {
            for (int behind = 0; behind < 3; behind++) {
                both("C".repeat(before) + "ATGTAA" + "C".repeat(behind), "2 " + (1 + before) + " 0");
                both("C".repeat(before) + "TTACAT" + "C".repeat(behind), "2 " + (6 + before) + " 1");
            }
        }
        // A frame of one strand and one of the other do not know of each other.
        both("ATGCATTAACCC", "3 1 0");
        both("TTAATGTAACAT", "2 4 0", "4 12 1");
    }

    private void orderOfBases() {
        // By where they begin, neither by where they end nor by the way that they are in.
        both("CATGCATGCATGTAACTAACTAA", "6 2 0", "6 6 0", "2 10 0");
        both("TTACATCCATGTAA", "2 9 0", "2 6 1");
        both("ATGTAACATGTAACCATGTAA", "2 1 0", "2 8 0", "2 16 0");
    }

    private void orderOfComplement() {
        both("TTAGTTAGTTACATGCATGCATG", "6 22 1", "6 18 1", "2 14 1");
        both("TTACATGGTTACATGTTACAT", "2 21 1", "2 14 1", "2 6 1");
        both("ATGTAATTACATCCATGTAACCTTACAT", "2 1 0", "2 15 0", "2 28 1", "2 12 1");
    }

    private void howMany() {
        c.due(0, new Run().frames(1, 0));
        c.due(0, new Run().frames(2, 0));
        c.due(20, Run.on("ATGTAA".repeat(20)).frames(1, 0));
        c.due(20, Run.on("TTACAT".repeat(20)).frames(2, 0));
        c.due(20, Run.on(TWO_FRAMES.repeat(10)).frames(1, 0));
        Run x = Run.on("ATGTA");
        c.due(0, x.frames(1, 0));
        x.give("A");
        c.due(1, x.frames(1, 0));
        x.clear();
        c.due(0, x.frames(1, 0));
        // What features there are does not count.
        c.due(1, Run.on("ATGTAA", "c . gene 1 3 . - . ID=g", "c . exon 1 1 . + . PARENT=x").frames(1, 0));
    }

    private void atLeastSoMany() {
        Run x = Run.on(FOUR_FRAMES);
        int[][] due = {
            {Integer.MIN_VALUE, 4}, {-1, 4}, {0, 4}, {1, 4}, {2, 4}, {3, 3}, {4, 1}, {5, 0}, {41, 0},
            {Integer.MAX_VALUE, 0}};
        for (int[] pair : due) {
            c.due(pair[1], x.frames(1, pair[0]));
            c.due(pair[1], x.frames(2, pair[0]));
        }
        Run longest = Run.on("ATG" + "AAA".repeat(38) + "TAA");
        c.due(1, longest.frames(1, 40));
        c.due(0, longest.frames(1, 41));
        Run empty = new Run();
        c.due(0, empty.frames(1, Integer.MIN_VALUE));
    }

    private void framesOfNoCode() {
        for (int code : NO_CODES) {
            c.refused(IAE, new Run(), y -> y.frames(code, 0));
            c.refused(IAE, Run.on(TWO_FRAMES), y -> y.frames(code, 2));
            c.refused(IAE, Run.on(TWO_FRAMES), y -> y.frames(code, Integer.MAX_VALUE));
        }
        c.due(2, Run.on(TWO_FRAMES).frames(1, 2));
        c.due(2, Run.on(TWO_FRAMES).frames(2, 2));
    }

    private void kthOfThese() {
        Run x = Run.on(FOUR_FRAMES);
        int[][] places = {{1, 7, 16, 37}, {7, 16, 37}, {16}};
        for (int least = 2; least <= 4; least++) {
            int[] of = places[least - 2];
            for (int k = 0; k < of.length; k++) {
                c.due(of[k], x.frame(1, least, k, 1));
            }
            c.due(IOOBE, x.frame(1, least, of.length, 1));
        }
        c.due(1, x.frame(1, Integer.MIN_VALUE, 0, 1));
        c.due(37, x.frame(1, -1, 3, 1));
        c.due(IOOBE, x.frame(1, Integer.MAX_VALUE, 0, 1));
        Run many = Run.on("ATGTAA".repeat(20));
        c.due(115, many.frame(1, 0, 19, 1));
        c.due(IOOBE, many.frame(1, 0, 20, 1));
    }

    private void howManyCodons() {
        for (int n = 2; n <= 40; n++) {
            Run x = Run.on("ATG" + "CCC".repeat(n - 2) + "TAA");
            c.due(n, x.frame(1, 0, 0, 0));
            c.due(n, x.frame(2, n, 0, 0));
            c.due(IOOBE, x.frame(2, n + 1, 0, 0));
        }
        c.due(4, Run.on("ATGTGACCCTAA").frame(2, 0, 0, 0));
        c.due(2, Run.on("ATGTGACCCTAA").frame(1, 0, 0, 0));
    }

    private void placesOfFirst() {
        for (int before : new int[] {0, 1, 2, 3, 57, 113, 114}) {
            String rest = "C".repeat(114 - before);
            c.due(before + 1, Run.on("C".repeat(before) + "ATGTAA" + rest).frame(1, 0, 0, 1));
            c.due(before + 6, Run.on("C".repeat(before) + "TTACAT" + rest).frame(1, 0, 0, 1));
        }
        // Bases that come later move nothing.
        Run x = Run.on("TTACAT");
        c.due(6, x.frame(1, 0, 0, 1));
        x.give("CCCC");
        c.due(6, x.frame(1, 0, 0, 1));
    }

    private void strands() {
        c.due(0, Run.on("ATGTAA").frame(1, 0, 0, 2));
        c.due(1, Run.on("TTACAT").frame(1, 0, 0, 2));
        c.due(0, Run.on(TWO_FRAMES).frame(2, 0, 0, 2));
        c.due(1, Run.on(TWO_FRAMES).frame(2, 0, 1, 2));
    }

    private void frameOfNoCode() {
        for (int code : NO_CODES) {
            c.refused(IAE, new Run(), y -> y.frame(code, 0, 0, 0));
            for (int part = -1; part <= 3; part++) {
                int asked = part;
                c.refused(IAE, Run.on(TWO_FRAMES), y -> y.frame(code, 0, 0, asked));
                c.refused(IAE, Run.on(TWO_FRAMES), y -> y.frame(code, 0, 2, asked));
            }
        }
        c.due(2, Run.on(TWO_FRAMES).frame(1, 0, 0, 0));
        c.due(2, Run.on(TWO_FRAMES).frame(2, 0, 0, 0));
    }

    private void noSuchFrame() {
        Run x = Run.on(TWO_FRAMES);
        for (int k : new int[] {-1, -2, 2, 3, 256, Integer.MIN_VALUE, Integer.MAX_VALUE}) {
            for (int part = -1; part <= 3; part++) {
                int asked = part;
                c.refused(IOOBE, x, y -> y.frame(1, 0, k, asked));
            }
        }
        c.refused(IOOBE, x, y -> y.frame(1, 3, 0, 0));
        c.refused(IOOBE, new Run(), y -> y.frame(1, 0, 0, 0));
        c.refused(IOOBE, new Run(), y -> y.frame(2, Integer.MIN_VALUE, -1, 0));
        c.due(12, x.frame(1, 0, 1, 1));
    }

    private void noSuchPart() {
        Run x = Run.on(TWO_FRAMES);
        for (int part : new int[] {-1, -2, 3, 4, 256, 257, Integer.MIN_VALUE, Integer.MAX_VALUE}) {
            c.refused(IOOBE, x, y -> y.frame(1, 0, 0, part));
            c.refused(IOOBE, x, y -> y.frame(2, 0, 1, part));
        }
    }
}
