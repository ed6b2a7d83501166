/** Promise 10, and the terms of the faults, of the order of parts and of the right phase. */
final class FaultBoundaries {
    private static final String G = "c . gene 10 50 . + . ID=g";
    private static final String M = "c . mRNA 10 50 . + . ID=m;PARENT=g";
    private static final String N = "c . mRNA 10 50 . + . ID=n;PARENT=g";
    private static final String E = "c . exon 10 50 . + . ID=e;PARENT=m";
    private static final String[] KINDS = {"gene", "mRNA", "exon", "CDS"};
    private static final int[][] ORDERS = {{0, 1, 2}, {0, 2, 1}, {1, 0, 2}, {1, 2, 0}, {2, 0, 1}, {2, 1, 0}};

    private final Clauses c;

    FaultBoundaries(Clauses clauses) {
        c = clauses;
    }

    void test() {
        c.section("Terms");
        c.clause("A book is WHOLE, if no feature has a fault", this::wholeBooks);
        c.clause("the first fault counts, by features from 0 on", this::firstFeature);
        c.clause("for each in this order", this::orderOfFaults);
        c.clause("1 its parent is not there", this::parentNotThere);
        c.clause("2 the parent is not of the right kind (a gene for an mRNA, an mRNA for an exon or a CDS)",
                this::kindsOfParents);
        c.clause("3 it is not within its parent (start to end)", this::notWithin);
        c.clause("or not on the same strand", this::otherStrand);
        c.clause("4 (an exon) it has places in common with another exon of the same parent", this::exonsMeet);
        c.clause("5 (a CDS) no one exon of its parent has all of its places", this::noExonAround);
        c.clause("6 (a CDS) it has places in common with another CDS of its parent", this::cdssMeet);
        c.clause("7 (a CDS that is not the first one of its parent)", this::firstCds);
        c.clause("its phase is not the RIGHT one.", this::wrongPhases);
        c.clause("The exons, and the CDSs, of an mRNA are in order", this::eachMrnaForItself);
        c.clause("by their starts, the least first, if it is on the strand +", this::orderByStarts);
        c.clause("by their ends, the greatest first, if on -", this::orderByEnds);
        c.clause("those with the same by their numbers", this::orderByNumbers);
        c.clause("The right phase of a CDS that is not the first one: if the one before has length n and phase p, "
                + "(3 - (n - p) % 3) % 3", this::rightPhases);
        c.clause("(if n is less than p: p - n)", this::phaseOverTheEnd);
        c.section("Promise 10: fault");
        c.clause("The first fault: the feature's number, and 16 times the fault", this::numberOfTheFault);
        c.clause("0 when the book is WHOLE.", this::wholeBooks);
    }

    private void fault(int number, int fault, String... lines) {
        Run x = Run.on(Run.some(60), lines);
        String before = x.state();
        c.due(number + 16 * fault, x.fault());
        c.text("asking changes nothing", before, x.state());
    }

    private void whole(String... lines) {
        fault(0, 0, lines);
    }

    private static String[] turned(String... lines) {
        String[] other = new String[lines.length];
        for (int i = 0; i < lines.length; i++) {
            other[i] = lines[i].replace(" + ", " # ").replace(" - ", " + ").replace(" # ", " - ");
        }
        return other;
    }

    /** The same on both strands: nothing of it depends on the order of parts. */
    private void both(int number, int fault, String... lines) {
        fault(number, fault, lines);
        fault(number, fault, turned(lines));
    }

    private static String exon(int start, int end) {
        return "c . exon " + start + " " + end + " . + . PARENT=m";
    }

    private static String cds(int start, int end, int phase) {
        return "c . CDS " + start + " " + end + " . + " + phase + " PARENT=m";
    }

    private static String down(String line) {
        return turned(line)[0];
    }

    private void wholeBooks() {
        c.due(0, new Run().fault());
        c.due(0, Run.on(Run.some(60)).fault());
        both(0, 0, G);
        both(0, 0, G, M);
        both(0, 0, G, M, E);
        both(0, 0, G, M, E, cds(10, 50, 0));
        both(0, 0, cds(10, 50, 2), E, M, G);
        both(0, 0, G, "c . gene 1 60 . - . ID=h", "c . gene 10 50 . + . ID=i");
        both(0, 0, G, M, N, "c . mRNA 10 50 . + . PARENT=g");
        whole(G, M, exon(10, 10), exon(11, 11), exon(50, 50), cds(10, 10, 0), cds(50, 50, 2));
        whole(turned(G, M, exon(10, 10), exon(11, 11), exon(50, 50), cds(10, 10, 2), cds(50, 50, 0)));
    }

    private void firstFeature() {
        fault(0, 7, cds(30, 33, 1), cds(10, 12, 0), E, M, G, "c . exon 1 1 . + . PARENT=x");
        both(0, 1, "c . exon 1 1 . + . PARENT=x", cds(30, 33, 1), cds(10, 12, 0), E, M, G);
        both(1, 3, G, "c . mRNA 9 50 . + . ID=m;PARENT=g", "c . exon 9 50 . + . PARENT=g");
        both(1, 2, G, "c . exon 9 50 . + . PARENT=g", "c . mRNA 9 50 . + . ID=m;PARENT=g");
        both(2, 5, G, M, cds(31, 32, 0), exon(10, 20), exon(20, 30));
        both(2, 4, G, M, exon(10, 20), cds(31, 32, 0), exon(20, 30));
    }

    private void orderOfFaults() {
        both(1, 2, G, "c . exon 9 50 . - . PARENT=g");
        both(1, 2, G, "c . CDS 9 50 . - 1 PARENT=g", "c . CDS 9 50 . - 1 PARENT=g");
        both(1, 2, G, "c . exon 11 12 . + . PARENT=g", "c . exon 11 12 . + . PARENT=g");
        both(2, 3, G, M, exon(9, 20), exon(20, 30));
        both(3, 3, G, M, exon(10, 20), cds(9, 20, 0));
        both(3, 3, G, M, exon(10, 20), "c . CDS 21 22 . - 0 PARENT=m");
        both(4, 3, G, M, exon(10, 20), exon(31, 40), cds(9, 20, 0), cds(20, 22, 0));
        both(4, 3, G, M, exon(10, 20), exon(30, 50), cds(40, 51, 1), cds(10, 12, 0));
        both(3, 5, G, M, exon(10, 20), cds(20, 21, 0), cds(20, 20, 0));
        fault(4, 5, G, M, exon(10, 20), cds(10, 12, 0), cds(20, 21, 1));
        fault(4, 6, G, M, exon(10, 20), cds(19, 21, 0).replace("PARENT=m", "PARENT=n"), cds(12, 13, 1),
                cds(10, 12, 0), N, exon(19, 21).replace("PARENT=m", "PARENT=n"));
        fault(3, 6, G, M, exon(10, 20), cds(12, 13, 1), cds(10, 12, 0));
    }

    private void parentNotThere() {
        for (int kind = 1; kind < 4; kind++) {
            String line = "c . " + KINDS[kind] + " 10 50 . + " + (kind == 3 ? "0" : ".") + " ";
            both(0, 1, line + "PARENT=x");
            both(1, 1, G, line + "PARENT=G");
            both(1, 1, G, line + "PARENT=gg");
            both(2, 1, G, M, line + "PARENT=mm");
            both(0, 1, line + "ID=i;PARENT=ii", G, M);
            both(2, 1, G, M, line + "PARENT=e;NOTE=m");
        }
        // Its parent may come later.
        both(0, 1, E, G);
        both(0, 0, E, G, M);
        both(0, 1, M, E);
        both(0, 0, M, E, G);
        // A gene has none.
        both(0, 0, G, "c . gene 1 60 . + . ID=h;NOTE=x");
    }

    private void kindsOfParents() {
        String parts = "c . exon 10 50 . + . PARENT=q";
        for (int kind = 1; kind < 4; kind++) {
            for (int parent = 0; parent < 4; parent++) {
                String phase = kind == 3 ? "0" : ".";
                String first = "c . " + KINDS[parent] + " 10 50 . + " + (parent == 3 ? "0" : ".") + " ID=p"
                        + (parent == 0 ? "" : parent == 1 ? ";PARENT=g" : ";PARENT=q");
                String child = "c . " + KINDS[kind] + " 10 50 . + " + phase + " PARENT=p";
                boolean right = parent == (kind == 1 ? 0 : 1);
                String[] lines = {G, "c . mRNA 10 50 . + . ID=q;PARENT=g", first, child,
                    kind == 3 && right ? "c . exon 10 50 . + . PARENT=p" : "c . gene 1 1 . + . ID=z",
                    parent == 3 ? parts : "c . gene 1 1 . + . ID=y"};
                both(right ? 0 : 3, right ? 0 : 2, lines);
            }
        }
        both(0, 2, "c . mRNA 10 50 . + . ID=m;PARENT=m");
        both(0, 2, "c . exon 10 50 . + . ID=m;PARENT=m");
        both(0, 2, "c . CDS 10 50 . + 0 ID=m;PARENT=m");
    }

    private void notWithin() {
        int[][] places = {{10, 50}, {9, 50}, {10, 51}, {9, 51}, {9, 9}, {10, 10}, {50, 50}, {51, 51}, {9, 10}, {50, 51},
            {1, 9}, {51, 60}, {1, 60}, {11, 49}};
        for (int[] place : places) {
            boolean within = place[0] >= 10 && place[1] <= 50;
            String at = " " + place[0] + " " + place[1] + " . + ";
            both(within ? 0 : 1, within ? 0 : 3, G, "c . mRNA" + at + ". PARENT=g");
            both(within ? 0 : 2, within ? 0 : 3, G, M, "c . exon" + at + ". PARENT=m");
            both(within ? 0 : 3, within ? 0 : 3, G, M, E, "c . CDS" + at + "0 PARENT=m");
        }
        // Within its parent, not within the parent's one.
        both(1, 3, G, "c . mRNA 1 60 . + . ID=m;PARENT=g", exon(1, 9));
        both(2, 3, G, "c . mRNA 20 30 . + . ID=m;PARENT=g", exon(10, 50));
    }

    private void otherStrand() {
        both(1, 3, G, down(M));
        both(2, 3, G, M, down(E));
        both(3, 3, G, M, E, down(cds(10, 50, 0)));
        both(1, 3, G, down(M), down(E), down(cds(10, 50, 0)));
        both(0, 0, G, down(G).replace("ID=g", "ID=h"), M, down(N).replace("PARENT=g", "PARENT=h"));
    }

    private void exonsMeet() {
        int[][] others = {{10, 19}, {10, 20}, {10, 25}, {10, 30}, {10, 40}, {15, 19}, {19, 19}, {20, 20}, {20, 30},
            {20, 31}, {25, 26}, {30, 30}, {30, 40}, {31, 31}, {31, 40}, {19, 31}};
        for (int[] other : others) {
            boolean meet = other[0] <= 30 && other[1] >= 20;
            both(meet ? 2 : 0, meet ? 4 : 0, G, M, exon(20, 30), exon(other[0], other[1]));
            both(meet ? 2 : 0, meet ? 4 : 0, G, M, exon(other[0], other[1]), exon(20, 30));
            // The one between them counts for nothing.
            both(meet ? 2 : 0, meet ? 4 : 0, G, M, exon(20, 30), exon(45, 50), exon(other[0], other[1]));
            // Another one's exon may be anywhere.
            both(0, 0, G, M, N, exon(20, 30), exon(other[0], other[1]).replace("PARENT=m", "PARENT=n"));
        }
        both(2, 4, exon(45, 50), G, exon(20, 30), M, exon(30, 40));
        // The other one is one of the same parent, whatever its own faults are.
        both(2, 4, G, M, exon(20, 30), exon(30, 60));
        both(2, 4, G, M, exon(20, 30), down(exon(30, 40)));
        both(0, 0, G, M, exon(20, 30), cds(20, 30, 0));
        both(0, 0, G, M, N);
    }

    private void noExonAround() {
        int[][] places = {{20, 30}, {20, 20}, {30, 30}, {25, 26}, {19, 20}, {30, 31}, {19, 30}, {20, 31}, {19, 31},
            {19, 19}, {31, 31}, {10, 50}, {45, 46}};
        for (int[] place : places) {
            boolean has = place[0] >= 20 && place[1] <= 30;
            both(has ? 0 : 3, has ? 0 : 5, G, M, exon(20, 30), cds(place[0], place[1], 0));
            both(has ? 0 : 2, has ? 0 : 5, G, M, cds(place[0], place[1], 0), exon(20, 30));
        }
        both(0, 0, exon(20, 30), cds(20, 30, 0), M, G);
        both(0, 0, G, M, cds(20, 30, 0), exon(20, 30));
        both(2, 5, G, M, cds(20, 20, 0));
        // Two exons have all places together, but no one of them has.
        both(4, 5, G, M, exon(20, 25), exon(26, 30), cds(25, 26, 0));
        both(4, 5, G, M, exon(20, 25), exon(26, 30), cds(20, 30, 0));
        both(0, 0, G, M, exon(20, 25), exon(26, 30), cds(26, 30, 0));
        both(0, 0, G, M, exon(20, 25), exon(26, 30), exon(40, 50), cds(20, 25, 0));
        both(4, 5, G, M, N, exon(20, 30).replace("PARENT=m", "PARENT=n"), cds(20, 30, 0));
        both(3, 5, G, M, N, cds(20, 30, 0), exon(20, 30).replace("PARENT=m", "PARENT=n"), exon(20, 29));
        both(3, 5, G, M, cds(20, 21, 0), cds(20, 30, 0).replace("PARENT=m", "PARENT=n"),
                exon(20, 30), N);
    }

    private void cdssMeet() {
        int[][] others = {{10, 19}, {10, 20}, {10, 30}, {10, 40}, {19, 19}, {20, 20}, {20, 30}, {25, 26}, {30, 30},
            {30, 40}, {31, 31}, {31, 40}};
        for (int[] other : others) {
            boolean meet = other[0] <= 30 && other[1] >= 20;
            if (meet) {
                // The first of two that meet is told, whichever of them it is.
                both(3, 6, G, M, E, cds(20, 30, 0), cds(other[0], other[1], 0));
                both(3, 6, G, M, E, cds(other[0], other[1], 0), cds(20, 30, 0));
            }
            both(0, 0, G, M, N, E, E.replace("ID=e;PARENT=m", "PARENT=n"), cds(20, 30, 0),
                    cds(other[0], other[1], 0).replace("PARENT=m", "PARENT=n"));
        }
        whole(G, M, E, cds(20, 30, 0), cds(31, 31, 1));
        whole(G, M, E, cds(31, 31, 1), cds(20, 30, 0));
        whole(G, M, E, cds(19, 19, 0), cds(20, 30, 2));
        whole(turned(G, M, E, cds(20, 30, 0), cds(19, 19, 1)));
        whole(turned(G, M, E, cds(31, 31, 0), cds(20, 30, 2)));
        // The other one counts, whatever its own faults are.
        both(3, 6, G, M, E, cds(20, 30, 0), cds(30, 60, 0));
        both(3, 6, G, M, exon(20, 30), cds(20, 30, 0), cds(30, 31, 0));
        fault(3, 6, G, M, E, cds(20, 30, 0), down(cds(30, 31, 0)));
    }

    private void firstCds() {
        for (int phase = 0; phase < 3; phase++) {
            both(0, 0, G, M, E, cds(10, 50, phase));
            both(0, 0, G, M, E, cds(11, 11, phase));
            int next = (phase + 1) % 3;
            // Five bases, so the next one's phase is one more than that of the first one.
            whole(G, M, E, cds(11, 15, phase), cds(20, 25, next));
            whole(G, M, E, cds(20, 25, next), cds(11, 15, phase));
            whole(turned(G, M, E, cds(41, 45, phase), cds(20, 25, next)));
            whole(turned(G, M, E, cds(20, 25, next), cds(41, 45, phase)));
            // Each parent has a first one.
            whole(G, M, N, E, E.replace("ID=e;PARENT=m", "PARENT=n"), cds(11, 15, phase),
                    cds(20, 25, phase).replace("PARENT=m", "PARENT=n"));
        }
        fault(4, 7, G, M, E, cds(11, 15, 0), cds(20, 25, 0));
        fault(3, 7, G, M, E, cds(20, 25, 0), cds(11, 15, 0));
        fault(4, 7, turned(G, M, E, cds(41, 45, 0), cds(20, 25, 0)));
        fault(3, 7, turned(G, M, E, cds(20, 25, 0), cds(41, 45, 0)));
    }

    private void wrongPhases() {
        for (int phase = 0; phase < 3; phase++) {
            int wrong = phase == 1 ? 0 : 7;
            fault(wrong == 0 ? 0 : 4, wrong, G, M, E, cds(11, 15, 0), cds(20, 25, phase));
            fault(wrong == 0 ? 0 : 4, wrong, turned(G, M, E, cds(41, 45, 0), cds(20, 25, phase)));
            // The third one's is counted from the second one, not from the first.
            int third = phase == 2 ? 0 : 7;
            fault(third == 0 ? 0 : 5, third, G, M, E, cds(11, 15, 0), cds(20, 24, 1), cds(30, 30, phase));
            fault(third == 0 ? 0 : 5, third, turned(G, M, E, cds(41, 45, 0), cds(20, 24, 1), cds(15, 15, phase)));
        }
        fault(3, 7, G, M, E, cds(20, 25, 0), cds(11, 15, 0), cds(30, 30, 1));
        fault(4, 7, G, M, E, cds(30, 31, 2), cds(20, 25, 2), cds(11, 15, 0));
    }

    private void eachMrnaForItself() {
        String other = "PARENT=n";
        whole(G, M, N, E, E.replace("ID=e;PARENT=m", other), cds(11, 15, 0), cds(20, 25, 1),
                cds(12, 12, 2).replace("PARENT=m", other), cds(22, 22, 1).replace("PARENT=m", other));
        fault(8, 7, G, M, N, E, E.replace("ID=e;PARENT=m", other), cds(11, 15, 0), cds(20, 25, 1),
                cds(12, 12, 2).replace("PARENT=m", other), cds(22, 22, 2).replace("PARENT=m", other));
        whole(G, down(G).replace("ID=g", "ID=h"), M, down(N).replace("PARENT=g", "PARENT=h"), E,
                down(E).replace("ID=e;PARENT=m", other), cds(11, 15, 0), cds(20, 25, 1),
                down(cds(11, 15, 0)).replace("PARENT=m", other), down(cds(20, 25, 0)).replace("PARENT=m", other));
    }

    /** Three CDSs as they come in any order: whole with their phases, and not with others. */
    private void inAnyOrder(String[] before, String... cdss) {
        for (int[] order : ORDERS) {
            String[] lines = {before[0], before[1], before[2], cdss[order[0]], cdss[order[1]], cdss[order[2]]};
            whole(lines);
        }
    }

    private void orderByStarts() {
        // Lengths 4, 5, 6 from the left: phases 0, 2, 0.
        inAnyOrder(new String[] {G, M, E}, cds(10, 13, 0), cds(14, 18, 2), cds(45, 50, 0));
        // Lengths 1, 1, 4: phases 1, 0, 2.
        inAnyOrder(new String[] {G, M, E}, cds(10, 10, 1), cds(12, 12, 0), cds(47, 50, 2));
        // The strand is the mRNA's, also for a CDS that is on the other one and faulty itself.
        fault(3, 7, G, M, E, cds(20, 22, 0), down(cds(10, 13, 0)));
        fault(4, 3, G, M, E, cds(20, 22, 2), down(cds(10, 13, 0)));
        fault(4, 3, G, M, E, cds(20, 22, 0), down(cds(30, 33, 0)));
        // By starts, not by ends: the long one ends further right, but it begins further left.
        fault(3, 7, G, M, E, cds(45, 47, 2), cds(25, 30, 0), cds(20, 41, 0));
        fault(4, 6, G, M, E, cds(45, 47, 0), cds(25, 30, 0), cds(20, 41, 0));
    }

    private void orderByEnds() {
        // Lengths 4, 5, 6 from the right: phases 0, 2, 0.
        inAnyOrder(turned(G, M, E), down(cds(47, 50, 0)), down(cds(40, 44, 2)), down(cds(10, 15, 0)));
        // Lengths 1, 1, 4: phases 1, 0, 2.
        inAnyOrder(turned(G, M, E), down(cds(50, 50, 1)), down(cds(48, 48, 0)), down(cds(10, 13, 2)));
        fault(3, 7, turned(G, M, E, cds(20, 22, 0), down(cds(30, 33, 0))));
        fault(4, 3, turned(G, M, E, cds(20, 22, 2), down(cds(30, 33, 0))));
        fault(4, 3, turned(G, M, E, cds(20, 22, 0), down(cds(10, 13, 0))));
        // By ends, not by starts: the long one begins further left, but it ends further right.
        fault(3, 7, turned(G, M, E, cds(20, 22, 2), cds(30, 35, 0), cds(25, 40, 0)));
        fault(4, 6, turned(G, M, E, cds(20, 22, 0), cds(30, 35, 0), cds(25, 40, 0)));
    }

    // Two with the same start or end meet, which is fault 6; a third one with a lesser number and
    // the right phase behind the last of them is the one that tells which of them is the last.
    private void orderByNumbers() {
        for (int phase = 0; phase < 3; phase++) {
            String third = cds(20, 22, phase);
            rightBehindTies(phase == 1, G, M, E, third, cds(10, 12, 0), cds(10, 11, 0));
            rightBehindTies(phase == 0, G, M, E, third, cds(10, 11, 0), cds(10, 12, 0));
            rightBehindTies(phase == 1, turned(G, M, E, third, cds(48, 50, 0), cds(49, 50, 0)));
            rightBehindTies(phase == 0, turned(G, M, E, third, cds(49, 50, 0), cds(48, 50, 0)));
        }
    }

    private void rightBehindTies(boolean right, String... lines) {
        fault(right ? 4 : 3, right ? 6 : 7, lines);
    }

    private void rightPhases() {
        // What is right behind a CDS of length 1, 2, .. with phase 0, 1, 2.
        String[] right = {"210210210210", "021021021021", "102102102102"};
        for (int p = 0; p < 3; p++) {
            for (int n = 1; n <= 12; n++) {
                for (int phase = 0; phase < 3; phase++) {
                    int wrong = phase == right[p].charAt(n - 1) - '0' ? 0 : 7;
                    fault(wrong == 0 ? 0 : 4, wrong, G, M, E, cds(10, 9 + n, p), cds(30, 35, phase));
                    fault(wrong == 0 ? 0 : 4, wrong, turned(G, M, E, cds(51 - n, 50, p), cds(30, 35, phase)));
                }
            }
        }
    }

    private void phaseOverTheEnd() {
        for (int phase = 0; phase < 3; phase++) {
            int wrong = phase == 1 ? 0 : 7;
            fault(wrong == 0 ? 0 : 4, wrong, G, M, E, cds(10, 10, 2), cds(30, 35, phase));
            fault(wrong == 0 ? 0 : 4, wrong, turned(G, M, E, cds(50, 50, 2), cds(30, 35, phase)));
        }
        // As long as its phase is the other rule's: none is left to take.
        whole(G, M, E, cds(10, 11, 2), cds(30, 35, 0));
        whole(G, M, E, cds(10, 10, 1), cds(30, 35, 0));
        whole(G, M, E, cds(10, 10, 2), cds(11, 11, 1), cds(30, 35, 0));
    }

    private void numberOfTheFault() {
        fault(0, 1, "c . exon 1 1 . + . PARENT=x");
        fault(0, 2, "c . exon 1 1 . + . ID=x;PARENT=x");
        fault(0, 3, "c . exon 9 9 . + . PARENT=m", G, M);
        fault(0, 4, exon(10, 20), exon(20, 30), G, M);
        fault(0, 5, cds(10, 20, 0), G, M);
        fault(0, 6, cds(10, 20, 0), cds(20, 30, 0), G, M, E);
        fault(0, 7, cds(20, 30, 0), cds(10, 13, 0), G, M, E);
        String[] lines = new String[14];
        for (int i = 0; i < 14; i++) {
            lines[i] = "c . gene 10 50 . + . ID=g" + i;
        }
        whole(lines);
        lines[13] = "c . mRNA 10 50 . + . PARENT=x";
        fault(13, 1, lines);
        lines[9] = G;
        lines[10] = M;
        lines[11] = E;
        lines[12] = cds(10, 12, 0);
        lines[13] = cds(20, 22, 1);
        fault(13, 7, lines);
        lines[13] = cds(12, 22, 0);
        fault(12, 6, lines);
    }
}
