/** Turns texts into calls of eight characters each, and OUT into a text again. */
final class Texts {
    private Texts() {
    }

    static long word(String text) {
        long w = 0;
        for (int i = text.length() - 1; i >= 0; i--) {
            w = w << 8 | text.charAt(i);
        }
        return w;
    }

    static boolean bases(GeneBook book, String text) {
        boolean all = true;
        for (int i = 0; i < text.length(); i += 8) {
            String piece = text.substring(i, Math.min(text.length(), i + 8));
            all &= book.bases(word(piece), piece.length());
        }
        return all;
    }

    static boolean type(GeneBook book, String text) {
        boolean all = true;
        for (int i = 0; i < text.length(); i += 8) {
            String piece = text.substring(i, Math.min(text.length(), i + 8));
            all &= book.type(word(piece), piece.length());
        }
        return all;
    }

    /** Columns are written with blanks for tabs where no column has a blank of its own. */
    static String tabs(String text) {
        return text.replace(' ', '\t');
    }

    static int add(GeneBook book, String line) {
        book.cut(0);
        type(book, line);
        return book.add();
    }

    static String out(GeneBook book) {
        StringBuilder text = new StringBuilder();
        for (int sign = book.out(0); sign != 0; sign = book.out(text.length())) {
            text.append((char) sign);
        }
        return text.toString();
    }
}
