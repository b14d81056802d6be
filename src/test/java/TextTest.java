/** Promises 1 to 4: a new object, and the text. */
public final class TextTest {
    public static void main(String[] args) {
        newSheet();
        appending();
        clearing();
        programs();
        errors();
        tooLong();
        everySign();
        Check.finish();
    }

    private static void newSheet() {
        SkateSheet x = new SkateSheet();
        int[] abouts = {0, 0, 0, 0, -1, 0};
        for (int what = 0; what < abouts.length; what++) {
            int w = what;
            Check.is(abouts[w], () -> x.about(w), "about(" + w + ") of a new sheet");
        }
        int[] settings = {100, 3, 7, 3, 10};
        for (int what = 0; what < settings.length; what++) {
            int w = what;
            Check.is(settings[w], () -> x.setting(w), "setting(" + w + ") of a new sheet");
        }
        Check.is(0, x::errorPosition, "errorPosition() of a new sheet");
        Check.is(0, x::clearText, "clearText() of a new sheet");
        Check.isState(x::undo, "undo() of a new sheet");
        Check.isIndex(() -> x.skater(0, 0), "skater(0, 0) of a new sheet");
        Check.isState(() -> x.restore(0), "restore(0) of a new sheet");
        Check.isState(() -> x.restore(1), "restore(1) of a new sheet");
    }

    private static void appending() {
        SkateSheet x = new SkateSheet();
        Check.isArgument(() -> x.append(-1), "append(-1)");
        Check.isArgument(() -> x.append(256), "append(256)");
        Check.isArgument(() -> x.append(Integer.MIN_VALUE), "append(least)");
        Check.isArgument(() -> x.append(Integer.MAX_VALUE), "append(greatest)");
        Check.is(1, () -> x.append(0), "append(0)");
        Check.is(2, () -> x.append(255), "append(255)");
        for (int i = 3; i <= 120; i++) {
            Check.is(i, () -> x.append('s'), "append at " + i);
        }
        Check.isState(() -> x.append('s'), "append to 120 characters");
        Check.isArgument(() -> x.append(256), "append(256) to 120 characters");
        Check.is(120, x::clearText, "clearText() of 120 characters");
    }

    private static void clearing() {
        SkateSheet x = new SkateSheet();
        Sheets.write(x, "3T;p4");
        Check.is(-1, x::errorPosition, "errorPosition() of a program");
        Check.is(5, x::clearText, "clearText()");
        Check.is(0, x::clearText, "clearText() again");
        Check.is(0, x::errorPosition, "errorPosition() behind clearText()");
        Check.is(1, () -> x.append('p'), "append behind clearText()");
        Check.is(1, x::errorPosition, "errorPosition() of p");
    }

    private static void position(int due, String text) {
        SkateSheet x = new SkateSheet();
        Sheets.write(x, text);
        Check.is(due, x::errorPosition, "errorPosition() of " + text);
        x.add();
        if (due == -1) {
            Check.is(text.split(";").length, () -> x.program(0), "program(0) of " + text);
        } else {
            Check.isState(() -> x.program(0), "program(0) of " + text);
            Check.is(0, () -> x.skater(0, 0), "the elements behind it");
        }
        Check.is(text.length(), x::clearText, "the length of " + text);
    }

    private static void programs() {
        for (char kind : "TSOFZA".toCharArray()) {
            for (char turns : "1234".toCharArray()) {
                position(-1, "" + turns + kind);
                position(-1, "" + turns + kind + "<");
                position(-1, "" + turns + kind + "!");
            }
        }
        position(-1, "3Fe");
        position(-1, "1Ze");
        for (int level = 0; level <= 4; level++) {
            position(-1, "p" + level);
            position(-1, "s" + level);
        }
        position(-1, "3T+2T");
        position(-1, "3Z!+2T<+2O");
        position(-1, "3Fe+3Ze+1A!");
        position(-1, "p0;s4;3A<;4Ze+4Fe+4T!");
        position(-1, "p0;p0;p0;p0;p0;p0;p0;p0;p0;p0;p0;p0");
    }

    private static void errors() {
        position(0, "");
        position(0, ";");
        position(0, "x");
        position(0, "0T");
        position(0, "5T");
        position(0, "T");
        position(0, "+");
        position(0, " 3T");
        position(0, "P1");
        position(1, "3");
        position(1, "3t");
        position(1, "3e");
        position(1, "3<");
        position(1, "33T");
        position(1, "p");
        position(1, "p5");
        position(1, "s");
        position(1, "s5");
        position(1, "s-1");
        position(1, "pp1");
        position(2, "3Te");
        position(2, "3Se");
        position(2, "3Oe");
        position(2, "3Ae");
        position(2, "p12");
        position(2, "p1<");
        position(2, "p1+2T");
        position(2, "s1+p1");
        position(2, "3T 2T");
        position(2, "3T?");
        position(3, "3F<e");
        position(3, "3Fe<");
        position(3, "3T!!");
        position(3, "3T;");
        position(3, "p1;");
        position(3, "3T+");
        position(3, "3T+p1");
        position(3, "3T++2T");
        position(3, "3T;;2T");
        position(3, "3T;+2T");
        position(4, "3T<+");
        position(4, "3T+2");
        position(8, "3T+2T+2T+");
        position(8, "3T+2T+2T+1T");
        position(9, "3T+2T+2T<+1T");
    }

    private static void tooLong() {
        String eleven = "p0;p0;p0;p0;p0;p0;p0;p0;p0;p0;p0;";
        position(33, eleven);
        position(35, eleven + "p0;");
        position(35, eleven + "p0;p0");
        position(35, eleven + "3T;3T");
        position(35, eleven + "p03");
        String chain = "3T<+3T<+3T<;";
        StringBuilder longest = new StringBuilder();
        for (int i = 0; i < 10; i++) {
            longest.append(chain);
        }
        position(120, longest.toString());
        position(-1, longest.substring(0, 119));
        position(119, longest.substring(0, 119) + "T");
    }

    /** Every sign behind a program of one jump. */
    private static void everySign() {
        for (int c = 0; c <= 255; c++) {
            int sign = c;
            SkateSheet x = Sheets.of("3F");
            x.append(c);
            int due = c == '<' || c == '!' || c == 'e' ? -1 : c == '+' || c == ';' ? 3 : 2;
            Check.is(due, x::errorPosition, "errorPosition() of 3F and the sign " + sign);
        }
    }
}
