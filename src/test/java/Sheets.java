/** What the tests write again and again: texts, programs, marks, states. */
final class Sheets {
    private Sheets() {
    }

    static void write(SkateSheet x, String text) {
        x.clearText();
        for (int i = 0; i < text.length(); i++) {
            x.append(text.charAt(i));
        }
    }

    /** A new sheet with a skater for each text. */
    static SkateSheet of(String... texts) {
        SkateSheet x = new SkateSheet();
        for (String text : texts) {
            give(x, x.add(), text);
        }
        return x;
    }

    static void give(SkateSheet x, int s, String text) {
        write(x, text);
        x.program(s);
    }

    static int marks(int a, int b, int c, int d, int e) {
        return ((((a + 5) * 11 + b + 5) * 11 + c + 5) * 11 + d + 5) * 11 + e + 5;
    }

    /** The same mark of all judges: three times it is the kernel. */
    static int marks(int all) {
        return marks(all, all, all, all, all);
    }

    static int components(int a, int b, int c, int d, int e) {
        return (((a * 41 + b) * 41 + c) * 41 + d) * 41 + e;
    }

    /** All that can be asked without changing anything, in one text, but what depends on the text buffer. */
    static String all(SkateSheet x) {
        StringBuilder b = new StringBuilder(ofNobody(x));
        int skaters = x.about(0);
        for (int s = 0; s < skaters; s++) {
            b.append('\n').append(s).append(": ");
            for (int what = 0; what <= 7; what++) {
                b.append(x.skater(s, what)).append(' ');
            }
            elements(x, s, b);
        }
        return b.toString();
    }

    /** The numbers of all together, and the settings. */
    static String ofNobody(SkateSheet x) {
        StringBuilder b = new StringBuilder();
        for (int what = 0; what <= 5; what++) {
            b.append(x.about(what)).append(' ');
        }
        for (int what = 0; what <= 4; what++) {
            b.append(x.setting(what)).append(' ');
        }
        return b.toString();
    }

    private static void elements(SkateSheet x, int s, StringBuilder b) {
        int elements = x.skater(s, 0);
        for (int e = 0; e < elements; e++) {
            b.append("; ");
            for (int what = 0; what <= 8; what++) {
                b.append(x.element(s, e, what)).append(' ');
            }
            int parts = x.element(s, e, 1);
            for (int k = 0; k < parts; k++) {
                for (int what = 0; what <= 4; what++) {
                    b.append(x.part(s, e, k, what)).append(' ');
                }
            }
        }
    }
}
