import java.util.ArrayList;
import java.util.List;

/**
 * The calls made on one object. They are kept, so that they can be made again on a new one: thus all
 * of a state is looked at without changing it, and no object is asked more often than the document
 * allows.
 */
final class Run {
    static final int MOST_CALLS = 512;

    /** A call and what it answered: a value, the name of what it threw, or "done". */
    record Answer(String call, String value) {
    }

    private interface Call {
        Object on(GeneBook book);
    }

    private final List<Call> calls = new ArrayList<>();
    private final GeneBook book = new GeneBook();

    /** A new object with these bases, and these lines as its features: blanks stand for tabs. */
    static Run on(String bases, String... lines) {
        Run run = new Run();
        run.give(bases);
        for (int i = 0; i < lines.length; i++) {
            run.put(Texts.tabs(lines[i]));
        }
        return run;
    }

    /** As many bases, ACGT over and over again. */
    static String some(int bases) {
        return "ACGT".repeat(bases / 4 + 1).substring(0, bases);
    }

    static long word(String text) {
        return Texts.word(text);
    }

    private static String answer(Call call, GeneBook book) {
        try {
            return String.valueOf(call.on(book));
        } catch (RuntimeException e) {
            return e.getClass().getSimpleName();
        }
    }

    private Answer ask(String name, Call call) {
        if (calls.size() == MOST_CALLS) {
            throw new AssertionError("the test asks one object too often");
        }
        calls.add(call);
        return new Answer(name, answer(call, book));
    }

    private GeneBook again() {
        GeneBook other = new GeneBook();
        for (Call call : calls) {
            answer(call, other);
        }
        return other;
    }

    /** Another object after the same calls. */
    Run copy() {
        Run copy = new Run();
        for (Call call : calls) {
            copy.ask("", call);
        }
        return copy;
    }

    int calls() {
        return calls.size();
    }

    Answer bases(long w, int n) {
        return ask("bases(" + w + ", " + n + ")", x -> x.bases(w, n));
    }

    Answer type(long w, int n) {
        return ask("type(" + w + ", " + n + ")", x -> x.type(w, n));
    }

    Answer cut(int n) {
        return ask("cut(" + n + ")", x -> x.cut(n));
    }

    Answer clear() {
        return ask("clear()", x -> {
            x.clear();
            return "done";
        });
    }

    Answer length() {
        return ask("length()", GeneBook::length);
    }

    Answer add() {
        return ask("add()", GeneBook::add);
    }

    Answer features() {
        return ask("features()", GeneBook::features);
    }

    Answer about(int k, int part) {
        return ask("about(" + k + ", " + part + ")", x -> x.about(k, part));
    }

    Answer fault() {
        return ask("fault()", GeneBook::fault);
    }

    Answer tell(int k, int code) {
        return ask("tell(" + k + ", " + code + ")", x -> x.tell(k, code));
    }

    Answer frames(int code, int codons) {
        return ask("frames(" + code + ", " + codons + ")", x -> x.frames(code, codons));
    }

    Answer frame(int code, int codons, int k, int part) {
        return ask("frame(" + code + ", " + codons + ", " + k + ", " + part + ")",
                x -> x.frame(code, codons, k, part));
    }

    Answer write() {
        return ask("write()", GeneBook::write);
    }

    Answer out(int i) {
        return ask("out(" + i + ")", x -> x.out(i));
    }

    void give(String text) {
        for (int i = 0; i < text.length(); i += 8) {
            String piece = text.substring(i, Math.min(text.length(), i + 8));
            must("true", bases(word(piece), piece.length()));
        }
    }

    void line(String text) {
        for (int i = 0; i < text.length(); i += 8) {
            String piece = text.substring(i, Math.min(text.length(), i + 8));
            must("true", type(word(piece), piece.length()));
        }
    }

    /** The line, which is empty, becomes a feature with the next number. */
    void put(String line) {
        String number = features().value();
        line(line);
        must(number, add());
    }

    private static void must(String want, Answer got) {
        if (!want.equals(got.value())) {
            throw new AssertionError("before the test's own calls, " + got + ", due is " + want);
        }
    }

    /** All of OUT, read from other objects after the same calls. */
    String outText() {
        StringBuilder text = new StringBuilder();
        GeneBook reader = again();
        int asked = calls.size();
        for (int i = 0; i < 2000; i++) {
            if (asked == MOST_CALLS) {
                reader = again();
                asked = calls.size();
            }
            asked++;
            int sign = reader.out(i);
            if (sign == 0) {
                return text.toString();
            }
            text.append((char) sign);
        }
        throw new AssertionError("OUT has no end");
    }

    /** What write puts into OUT, if it is called next. */
    String written() {
        Run other = copy();
        other.write();
        return other.outText();
    }

    int lineLength() {
        GeneBook other = again();
        int n = 72;
        while (n >= 0 && !other.cut(n)) {
            n--;
        }
        return n;
    }

    /** What later calls tell. */
    String state() {
        StringBuilder text = new StringBuilder();
        text.append("bases ").append(copy().length().value()).append(' ').append(basesTold());
        text.append(", line of ").append(lineLength()).append(' ').append(lineTold(""));
        text.append(lineTold(Texts.tabs(" . gene 1 1 . + . ID=qqqqqq")));
        text.append(", features ").append(copy().features().value()).append(' ').append(abouts());
        text.append(", fault ").append(copy().fault().value());
        text.append(", OUT ").append(outText()).append(", book ").append(written());
        text.append(", told ").append(tells()).append(", frames ").append(frameAnswers());
        return text.toString();
    }

    private String tells() {
        StringBuilder text = new StringBuilder();
        int features = Integer.parseInt(copy().features().value());
        for (int k = 0; k < features; k++) {
            for (int code = 0; code < 2; code++) {
                Run other = copy();
                String told = other.tell(k, code).value();
                boolean isNumber = Character.isDigit(told.charAt(0));
                text.append(told).append(isNumber ? other.outText() : "").append(' ');
            }
        }
        return text.toString();
    }

    private String frameAnswers() {
        Run other = copy();
        return other.frames(1, 0).value() + " " + other.frames(2, 0).value();
    }

    private String abouts() {
        StringBuilder text = new StringBuilder();
        Run other = copy();
        int features = Integer.parseInt(copy().features().value());
        for (int k = 0; k < features; k++) {
            for (int part = 0; part < 6; part++) {
                text.append(other.about(k, part).value()).append(' ');
            }
        }
        return text.toString();
    }

    /** The line with a tail behind it, as it is written when it is a feature. */
    private String lineTold(String tail) {
        Run other = copy();
        for (int i = 0; i < tail.length(); i++) {
            other.type(tail.charAt(i), 1);
        }
        return other.add().value() + " " + other.written();
    }

    /** The sequence as a transcript, where the book has room for one and is whole. */
    private String basesTold() {
        Run other = copy();
        String length = other.length().value();
        int first = Integer.parseInt(other.features().value());
        String tail = " " + length + " . + . ";
        String[] lines = {
            "q . gene 1" + tail + "ID=qqqqqq", "q . mRNA 1" + tail + "ID=rrrrrr;PARENT=qqqqqq",
            "q . exon 1" + tail + "PARENT=rrrrrr"};
        for (String line : lines) {
            other.cut(0);
            other.line(Texts.tabs(line));
            other.add();
        }
        return other.tell(first + 1, 0).value() + " " + other.outText();
    }
}
