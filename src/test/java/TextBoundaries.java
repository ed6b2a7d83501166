/** Promises 1 to 6, and the terms of the sequence and of the line's characters. */
final class TextBoundaries {
    private static final int[] NOT_ONE_TO_EIGHT = {
        0, -1, 9, -8, 16, 256 + 1, Integer.MIN_VALUE, Integer.MIN_VALUE + 1, Integer.MAX_VALUE};
    private static final String GENE_TAIL = Texts.tabs(" . gene 1 1 . + . ID=g");

    private final Clauses c;

    TextBoundaries(Clauses clauses) {
        c = clauses;
    }

    void test() {
        terms();
        newObject();
        bases();
        type();
        cut();
        clear();
        c.section("Promise 6: length");
        c.clause("How long the sequence is.", this::length);
    }

    private void terms() {
        c.section("Terms");
        c.clause("BASES are A C G T and N (any).", this::whatIsABase);
        c.clause("THE SEQUENCE has at most 120", this::fullSequence);
        c.clause(", at places 1, 2, .. .", this::places);
        c.clause("The COMPLEMENT of A is T, of C G, of G C, of T A, of N N", this::complements);
        c.clause("of a row of bases the complements of its bases from its end to its beginning.",
                this::turnedRows);
        c.clause("THE LINE is a text of at most 72 characters", this::fullLine);
        c.clause("characters 9 or 32 .. 126", this::whatIsACharacter);
    }

    private void newObject() {
        c.section("Promise 1: A new object");
        c.clause("No bases", () -> {
            c.due(0, new Run().length());
            c.due(0, new Run().frames(1, Integer.MIN_VALUE));
            c.due("IndexOutOfBoundsException", new Run().frame(1, 0, 0, 0));
        });
        c.clause("an empty line", () -> {
            c.due(false, new Run().cut(1));
            c.due(true, new Run().cut(0));
            c.due("IllegalArgumentException", new Run().add());
        });
        c.clause("no features", () -> {
            c.due(0, new Run().features());
            c.due("IndexOutOfBoundsException", new Run().about(0, 0));
            c.due(0, new Run().fault());
            c.due("IndexOutOfBoundsException", new Run().tell(0, 0));
            c.due(0, new Run().write());
        });
        c.clause("OUT is empty.", () -> c.due(0, new Run().out(0)));
    }

    private void bases() {
        c.section("Promise 2: bases");
        c.clause("n bases come behind the sequence", this::basesComeBehind);
        c.clause("the lowest byte of w first", this::lowestBaseFirst);
        c.clause("False when n is not 1 .. 8", this::wrongNumberOfBases);
        c.clause("there would be more than 120", this::tooManyBases);
        c.clause("or one is none", this::wrongBases);
    }

    private void type() {
        c.section("Promise 3: type");
        c.clause("n characters come behind the line", this::charactersComeBehind);
        c.clause("likewise", this::lowestCharacterFirst);
        c.clause("False when n is not 1 .. 8", this::wrongNumberOfCharacters);
        c.clause("there would be more than 72", this::tooManyCharacters);
        c.clause("or one is not as said", this::wrongCharacters);
    }

    private void cut() {
        c.section("Promise 4: cut");
        c.clause("The line keeps its first n characters.", this::cutKeepsTheFirst);
        c.clause("False when n is negative", this::cutNegative);
        c.clause("or it has not so many", this::cutTooMany);
    }

    private void clear() {
        c.section("Promise 5: clear");
        c.clause("The sequence, the line and the book are empty again", this::clearEmpties);
        c.clause("the book are empty again", this::clearForgetsTheBook);
        c.clause("(OUT stays)", this::clearLeavesOut);
    }

    private void whatIsABase() {
        Run x = new Run();
        for (int sign = 0; sign < 256; sign++) {
            c.due("ACGTN".indexOf(sign) >= 0, x.bases(sign, 1));
        }
        c.due(5, x.length());
    }

    private void fullSequence() {
        Run x = Run.on(Run.some(120));
        c.due(120, x.length());
        c.refused("false", x, y -> y.bases('A', 1));
        c.due(120, x.length());
    }

    private void places() {
        Run x = Run.on("CG" + "A".repeat(116) + "TN", "c . gene 1 120 . + . ID=g");
        int[] places = {1, 2, 3, 118, 119, 120};
        for (int i = 0; i < places.length; i++) {
            x.put(Texts.tabs("c . mRNA 1 120 . + . ID=m" + i + ";PARENT=g"));
            x.put(Texts.tabs("c . exon " + places[i] + " " + places[i] + " . + . PARENT=m" + i));
            c.due(1, x.tell(1 + 2 * i, 0));
            c.text("the base at " + places[i], "CGAATN".substring(i, i + 1), x.outText());
        }
    }

    private void complements() {
        Run x = Run.on("ACGTN", "c . gene 1 5 . - . ID=g");
        for (int i = 1; i <= 5; i++) {
            x.put(Texts.tabs("c . mRNA 1 5 . - . ID=m" + i + ";PARENT=g"));
            x.put(Texts.tabs("c . exon " + i + " " + i + " . - . PARENT=m" + i));
            c.due(1, x.tell(2 * i - 1, 0));
            c.text("the complement at " + i, "TGCAN".substring(i - 1, i), x.outText());
        }
    }

    private String turned(String bases) {
        String tail = " " + bases.length() + " . - . ";
        Run x = Run.on(bases, "c . gene 1" + tail + "ID=g", "c . mRNA 1" + tail + "ID=m;PARENT=g",
                "c . exon 1" + tail + "PARENT=m");
        x.tell(1, 0);
        return x.outText();
    }

    private void turnedRows() {
        c.text("one", "T", turned("A"));
        c.text("two", "GT", turned("AC"));
        c.text("three", "NGT", turned("ACN"));
        c.text("all", "ACGT".repeat(29) + "ACNN", turned("NNGT" + "ACGT".repeat(29)));
    }

    private void fullLine() {
        Run x = Run.on("ACGT");
        x.line("~".repeat(72 - GENE_TAIL.length()) + GENE_TAIL);
        c.refused("false", x, y -> y.type('2', 1));
        c.due(true, x.cut(72));
        c.due(0, x.add());
        c.due(73, x.write());
    }

    private void whatIsACharacter() {
        Run x = new Run();
        for (int sign = 0; sign < 256; sign++) {
            c.due(sign == 9 || sign >= 32 && sign <= 126, x.type(sign, 1));
            if (sign % 60 == 59) {
                x.cut(0);
            }
        }
    }

    private void basesComeBehind() {
        for (int n = 1; n <= 8; n++) {
            int many = n;
            Run x = Run.on("GG");
            c.due(true, x.bases(Run.word("ACNTTGCA"), many));
            c.due(2 + n, x.length());
            c.text("the bases", "GG" + "ACNTTGCA".substring(0, n), transcript(x));
        }
    }

    private static String transcript(Run run) {
        Run x = run.copy();
        String tail = " " + x.length().value() + " . + . ";
        x.put(Texts.tabs("c . gene 1" + tail + "ID=g"));
        x.put(Texts.tabs("c . mRNA 1" + tail + "ID=m;PARENT=g"));
        x.put(Texts.tabs("c . exon 1" + tail + "PARENT=m"));
        x.tell(1, 0);
        return x.outText();
    }

    private void lowestBaseFirst() {
        Run x = new Run();
        c.due(true, x.bases('A' + 256L * 'C' + 65536L * 'G', 3));
        c.text("lowest first", "ACG", transcript(x));
        // The bytes behind the n-th are not among the n bases.
        c.due(true, x.bases(-256L + 'T', 1));
        c.due(true, x.bases(0xFF00000000000000L + Run.word("NNCCAAG"), 7));
        c.text("the bytes behind", "ACGTNNCCAAG", transcript(x));
    }

    private void wrongNumberOfBases() {
        Run x = Run.on("ACG");
        for (int n : NOT_ONE_TO_EIGHT) {
            c.refused("false", x, y -> y.bases(Run.word("ACGTACGT"), n));
        }
        c.due(true, x.bases(Run.word("ACGTACGT"), 1));
        c.due(true, x.bases(Run.word("ACGTACGT"), 8));
        c.due(12, x.length());
    }

    private void tooManyBases() {
        for (int had = 112; had <= 120; had++) {
            for (int n = 1; n <= 8; n++) {
                int many = n;
                Run x = Run.on(Run.some(had));
                if (had + n <= 120) {
                    c.due(true, x.bases(Run.word("GGGGGGGG"), n));
                    c.due(had + n, x.length());
                } else {
                    c.refused("false", x, y -> y.bases(Run.word("GGGGGGGG"), many));
                }
            }
        }
    }

    private void wrongBases() {
        Run x = Run.on("ACG");
        for (int place = 0; place < 8; place++) {
            for (char sign : new char[] {0, '@', 'B', 'a', 'n', 'U', 'M', 'O', 'A' + 128, 255}) {
                StringBuilder text = new StringBuilder("ACGTNACG");
                text.setCharAt(place, sign);
                String wrong = text.toString();
                c.refused("false", x, y -> y.bases(Run.word(wrong), 8));
                if (place > 0) {
                    c.due(true, Run.on("ACG").bases(Run.word(wrong), place));
                }
            }
        }
    }

    private String nameOf(Run run) {
        Run x = run.copy();
        x.line(GENE_TAIL);
        c.due(0, x.add());
        String written = x.written();
        return written.substring(0, Math.max(0, written.length() - GENE_TAIL.length() - 1));
    }

    private void charactersComeBehind() {
        for (int n = 1; n <= 8; n++) {
            Run x = Run.on("A");
            x.line("xy");
            c.due(true, x.type(Run.word("a b~!;=z"), n));
            c.text("the line", "xy" + "a b~!;=z".substring(0, n), nameOf(x));
            c.text("how long it is", String.valueOf(2 + n), String.valueOf(x.lineLength()));
        }
    }

    private void lowestCharacterFirst() {
        Run x = Run.on("A");
        c.due(true, x.type('a' + 256L * 'b' + 65536L * 'c', 3));
        c.due(true, x.type(-256L + 'd', 1));
        c.due(true, x.type(0xFF00000000000000L + Run.word("efghijk"), 7));
        c.text("the line", "abcdefghijk", nameOf(x));
    }

    private void wrongNumberOfCharacters() {
        Run x = Run.on("A");
        x.line("abc");
        for (int n : NOT_ONE_TO_EIGHT) {
            c.refused("false", x, y -> y.type(Run.word("abcdefgh"), n));
        }
        c.due(true, x.type(Run.word("abcdefgh"), 1));
        c.due(true, x.type(Run.word("abcdefgh"), 8));
        c.text("the line", "abcaabcdefgh", nameOf(x));
    }

    private void tooManyCharacters() {
        for (int had = 64; had <= 72; had++) {
            for (int n = 1; n <= 8; n++) {
                int many = n;
                Run x = Run.on("A");
                x.line("x".repeat(had));
                if (had + n <= 72) {
                    c.due(true, x.type(Run.word("yyyyyyyy"), n));
                    c.text("how long", String.valueOf(had + n), String.valueOf(x.lineLength()));
                } else {
                    c.refused("false", x, y -> y.type(Run.word("yyyyyyyy"), many));
                }
            }
        }
    }

    private void wrongCharacters() {
        Run x = Run.on("A");
        x.line("abc");
        for (int place = 0; place < 8; place++) {
            for (char sign : new char[] {0, 8, 10, 13, 31, 127, 128, 'a' + 128, 9 + 128, 255}) {
                StringBuilder text = new StringBuilder("abcdefgh");
                text.setCharAt(place, sign);
                String wrong = text.toString();
                c.refused("false", x, y -> y.type(Run.word(wrong), 8));
                if (place > 0) {
                    c.due(true, new Run().type(Run.word(wrong), place));
                }
            }
        }
    }

    private void cutKeepsTheFirst() {
        for (int n = 1; n <= 9; n++) {
            Run x = Run.on("A");
            x.line("abcdefghi");
            c.due(true, x.cut(n));
            c.text("what is kept", "abcdefghi".substring(0, n), nameOf(x));
        }
        Run x = Run.on("A");
        c.due(true, x.cut(0));
        x.line("abc");
        c.due(true, x.cut(0));
        c.due(false, x.cut(1));
        x.line("x".repeat(72));
        c.due(true, x.cut(72));
        c.due(true, x.cut(71));
        c.due(false, x.cut(72));
        c.due(true, x.type('z', 1));
        c.due(1, x.length());
    }

    private void cutNegative() {
        Run x = Run.on("A");
        for (int n : new int[] {-1, -2, -72, Integer.MIN_VALUE}) {
            c.refused("false", x, y -> y.cut(n));
        }
        x.line("abc");
        for (int n : new int[] {-1, -3, -4, Integer.MIN_VALUE}) {
            c.refused("false", x, y -> y.cut(n));
        }
    }

    private void cutTooMany() {
        Run x = Run.on("A");
        for (int n : new int[] {1, 72, 73, Integer.MAX_VALUE}) {
            c.refused("false", x, y -> y.cut(n));
        }
        x.line("abc");
        for (int n : new int[] {4, 72, 73, 259, Integer.MAX_VALUE}) {
            c.refused("false", x, y -> y.cut(n));
        }
        x.cut(2);
        c.refused("false", x, y -> y.cut(3));
        x.cut(0);
        x.line("x".repeat(72));
        c.refused("false", x, y -> y.cut(73));
    }

    private void clearEmpties() {
        Run x = Run.on(Run.some(120), "c . gene 1 120 . + . ID=g");
        x.line("x".repeat(72));
        c.due("done", x.clear());
        c.due(0, x.length());
        c.due(false, x.cut(1));
        c.due(0, x.features());
        c.text("all is as when it was new", new Run().state(), x.state());
        x.give(Run.some(120));
        x.line("y".repeat(72));
        c.due(120, x.length());
        Run empty = new Run();
        c.due("done", empty.clear());
        c.text("an empty one is as it was", new Run().state(), empty.state());
    }

    private void clearForgetsTheBook() {
        Run x = Run.on("ATGTAACC", "c . gene 1 8 . + . ID=g", "c . exon 1 8 . - . PARENT=g");
        x.clear();
        c.due(0, x.fault());
        c.due(0, x.frames(1, 0));
        c.due("IndexOutOfBoundsException", x.about(0, 0));
        x.give("CCCC");
        x.put(Texts.tabs("d . mRNA 2 3 . - . ID=m;PARENT=g"));
        c.due(-1, x.about(0, 5));
        c.due(16, x.fault());
        x.put(Texts.tabs("d . gene 2 4 . - . ID=g"));
        c.due(1, x.about(0, 5));
        c.due(0, x.fault());
        c.text("the new ones alone", Texts.tabs("d . gene 2 4 . - . ID=g\nd . mRNA 2 3 . - . ID=m;PARENT=g\n"),
                x.written());
    }

    private void clearLeavesOut() {
        Run x = Run.on("ACGT", "c . gene 1 4 . + . ID=g");
        x.write();
        String before = x.outText();
        x.clear();
        c.text("OUT", Texts.tabs("c . gene 1 4 . + . ID=g\n"), before);
        c.text("OUT", before, x.outText());
        x.clear();
        c.text("OUT", before, x.outText());
        c.due(0, x.write());
        c.due(0, x.out(0));
    }

    private void length() {
        Run x = new Run();
        for (int n = 1; n <= 8; n++) {
            x.bases(Run.word("ACGTNNNN"), n);
            c.due(n * (n + 1) / 2, x.length());
        }
        x.line("abcd");
        x.cut(1);
        c.due(36, x.length());
        x.give(Run.some(84));
        c.due(120, x.length());
        x.clear();
        c.due(0, x.length());
    }
}
