/** The boundaries of promises 1 to 4, and of what the document says under TEXT. */
public final class TextEdgeTest {
    private static final String LONGEST = "3T<+3T<+3T<;3Fe+3Ze+2A!;p0;1T!+1S!+1O!;s4;4Z<+4F<+4A<;2T+2S+2O;"
            + "2A<+2A!+2A<;3S+1T<+2Z!;4T<+1Ze+1Fe;2A!+2S<+1A<;1S+1O<+1Fe";
    private static final String ELEVEN = "p0;p0;p0;p0;p0;p0;p0;p0;p0;p0;p0;";

    public static void main(String[] args) {
        newSheet();
        sheetsShareNothing();
        everyCode();
        everyLength();
        emptied();
        everyPlace();
        everyCount();
        longest();
        prefixes();
        firstOfSeveralErrors();
        checkedTwice();
        Check.finish();
    }

    /** "Creates a sheet without skaters", "at first ..": what a new sheet tells. */
    private static void newSheet() {
        SkateSheet x = new SkateSheet();
        Check.same("0 0 0 0 -1 0 100 3 7 3 10 ", Sheets.all(x), "a new sheet");
        Check.is(SkateSheet.NONE, () -> x.about(4), "the first one without skaters");
        Check.is(0, x::errorPosition, "errorPosition() of a new sheet");
        Check.is(0, x::clearText, "clearText() of a new sheet");
        Check.is(1, () -> x.append('p'), "append() to a new sheet");
        SkateSheet y = new SkateSheet();
        Check.is(0, y::add, "add() to a new sheet");
        Check.is(0, y::undo, "undo() of the first action of a sheet");
    }

    /** What one sheet is told, another one does not know. */
    private static void sheetsShareNothing() {
        SkateSheet x = new SkateSheet();
        SkateSheet full = Scenes.full();
        Check.is(120, full::clearText, "clearText() of the other sheet");
        Check.same(Sheets.all(new SkateSheet()), Sheets.all(x), "a sheet beside a full one");
        Check.is(0, x::clearText, "clearText() beside a full sheet");
        Check.isState(x::undo, "undo() beside a full sheet");
        Check.isState(() -> x.restore(0), "restore(0) beside a full sheet");
        Check.isState(() -> x.restore(1), "restore(1) beside a full sheet");
    }

    /** "character code, 0 to 255" */
    private static void everyCode() {
        SkateSheet x = new SkateSheet();
        for (int c = 0; c <= 255; c++) {
            int code = c;
            if (c == 120 || c == 240) {
                x.clearText();
            }
            Check.is(c % 120 + 1, () -> x.append(code), "append(" + c + ")");
        }
        Check.isArgument(() -> x.append(256), "append(256)");
        Check.isArgument(() -> x.append(-1), "append(-1)");
    }

    /** "Throws IllegalStateException if the text already has 120 characters" */
    private static void everyLength() {
        SkateSheet x = new SkateSheet();
        for (int length = 1; length <= 120; length++) {
            Check.is(length, () -> x.append('9'), "append() to the length " + length);
        }
        Check.isState(() -> x.append('9'), "append() to 120 characters");
        Check.isState(() -> x.append('9'), "append() to 120 characters again");
        Check.isArgument(() -> x.append(-1), "append(-1) to 120 characters");
        Check.isArgument(() -> x.append(256), "append(256) to 120 characters");
        Check.is(120, x::clearText, "clearText() of 120 characters");
        Check.is(1, () -> x.append('9'), "append() behind a full text");
    }

    /** "Empties the text buffer. Returns the previous length": of 0, of 1, of 120, and again. */
    private static void emptied() {
        for (int length : new int[] {0, 1, 2, 119, 120}) {
            SkateSheet x = new SkateSheet();
            for (int i = 0; i < length; i++) {
                x.append(i % 3 == 2 ? ';' : i % 3 == 1 ? '1' : 'p');
            }
            Check.is(length, x::clearText, "clearText() of " + length);
            Check.is(0, x::clearText, "clearText() of an emptied text");
            Check.is(0, x::errorPosition, "errorPosition() of an emptied text");
            x.append('p');
            Check.is(1, x::errorPosition, "errorPosition() of one sign behind " + length);
            x.append('1');
            Check.is(-1, x::errorPosition, "errorPosition() of two signs behind " + length);
        }
    }

    /**
     * "The index of the first character that these rules do not allow at its place; if the text ends too soon, the
     * length": each of the 256 characters at each kind of place.
     */
    private static void everyPlace() {
        place("", "", "1234ps");
        for (String digit : new String[] {"1", "2", "3", "4"}) {
            place(digit, "TSOFZA", "");
        }
        place("p", "01234", "");
        place("s", "01234", "");
        for (String kind : new String[] {"T", "S", "O", "A"}) {
            place("3" + kind, "<!", "+;");
        }
        place("1F", "<!e", "+;");
        place("4Z", "<!e", "+;");
        for (String called : new String[] {"3T<", "1A!", "4Fe", "2Ze", "3Z<"}) {
            place(called, "", "+;");
        }
        place("p0", "", ";");
        place("p4", "", ";");
        place("s0", "", ";");
        place("s4", "", ";");
        place("p3;", "", "1234ps");
        place("3T;", "", "1234ps");
        place("3T;s", "01234", "");
        place("s1;4", "TSOFZA", "");
        place("3T+", "", "1234");
        place("3T!+2", "TSOFZA", "");
        place("3T+2Z", "<!e", "+;");
        place("3T+2S", "<!", "+;");
        place("3T+2Ze", "", "+;");
        place("3T+2Z+", "", "1234");
        place("3T+2Z+1", "TSOFZA", "");
        // a fourth jump is not allowed, and a thirteenth element is not
        place("3T+2Z+1A", "<!", ";");
        place("3T+2Z+1F", "<!e", ";");
        place("3T+2Z+1A<", "", ";");
        place("1T+1T+1T;1T+1T+1T", "<!", ";");
        place(ELEVEN, "", "1234ps");
        place(ELEVEN + "p0", "", "");
        place(ELEVEN + "s", "01234", "");
        place(ELEVEN + "3T", "<!", "+");
        place(ELEVEN + "3F", "<!e", "+");
        place(ELEVEN + "3Fe", "", "+");
        place(ELEVEN + "3T+3T", "<!", "+");
        place(ELEVEN + "3T+3T+3Z", "<!e", "");
        place(ELEVEN + "3T+3T+3Z!", "", "");
    }

    /** Signs that make the text a program, signs that may stand there with more behind them, and all others. */
    private static void place(String before, String ends, String goOn) {
        for (int c = 0; c <= 255; c++) {
            SkateSheet x = new SkateSheet();
            Sheets.write(x, before);
            x.append(c);
            int due = ends.indexOf(c) >= 0 ? -1 : goOn.indexOf(c) >= 0 ? before.length() + 1 : before.length();
            Check.is(due, x::errorPosition, "errorPosition() of " + before + " and the code " + c);
        }
    }

    /** "A program as a text is 1 to 12 elements", "a chain is 1 to 3 jumps" */
    private static void everyCount() {
        StringBuilder text = new StringBuilder();
        for (int elements = 1; elements <= 14; elements++) {
            text.append(elements == 1 ? "" : ";").append(elements % 3 == 0 ? "3T" : "s1");
            position(elements <= 12 ? -1 : 35, text.toString());
        }
        StringBuilder chain = new StringBuilder();
        for (int jumps = 1; jumps <= 5; jumps++) {
            chain.append(jumps == 1 ? "" : "+").append("2O");
            position(jumps <= 3 ? -1 : 8, chain.toString());
            position(jumps <= 3 ? -1 : 11, "p1;" + chain);
        }
    }

    private static void position(int due, String text) {
        SkateSheet x = new SkateSheet();
        Sheets.write(x, text);
        Check.is(due, x::errorPosition, "errorPosition() of " + text);
    }

    /** "at most 120 characters": a program of just as many, in twelve elements. */
    private static void longest() {
        SkateSheet x = new SkateSheet();
        x.add();
        x.add();
        Sheets.write(x, LONGEST);
        Check.isState(() -> x.append(';'), "append() to the longest program");
        Check.is(-1, x::errorPosition, "errorPosition() of the longest program");
        Check.is(12, () -> x.program(1), "program(1) of the longest text");
        Check.is(3, () -> x.element(1, 11, 1), "the parts of its last element");
        Check.is(3, () -> x.part(1, 11, 2, 2), "its last call");
        Check.is(3, () -> x.part(1, 11, 2, 0), "its last kind");
        Check.is(120, x::clearText, "the length of the longest program");
        // the last character is wrong, or the text ends too soon
        position(119, LONGEST.substring(0, 119) + "+");
        position(119, LONGEST.substring(0, 119) + ";");
        position(119, LONGEST.substring(0, 119) + "p");
        position(120, "3T<+3T<+3T<;".repeat(10));
        position(119, "3T<+3T<+3T<;".repeat(9) + "3T<+3T<+3T<+");
    }

    /** "If the text ends too soon, it is the length of the text": each beginning of a program. */
    private static void prefixes() {
        for (int length = 0; length <= 120; length++) {
            String text = LONGEST.substring(0, length);
            position(mayEnd(text) ? -1 : length, text);
        }
    }

    /** A program ends with a kind, a call or a level. */
    private static boolean mayEnd(String text) {
        int length = text.length();
        boolean isLevel = length >= 2 && "ps".indexOf(text.charAt(length - 2)) >= 0;
        return length > 0 && (isLevel || "TSOFZA<!e".indexOf(text.charAt(length - 1)) >= 0);
    }

    private static void firstOfSeveralErrors() {
        position(0, "x3T;p9");
        position(1, "3X;p9");
        position(4, "3T;p9;0T");
        position(5, "3T;p1+;3Te");
        position(8, "1T+1T+1T+1T+1T;p9");
        position(35, ELEVEN + "p0;p9");
        position(34, ELEVEN + "p9;p0");
        position(0, "                                        ");
    }

    /** A check keeps the text; the next one sees what was appended. */
    private static void checkedTwice() {
        SkateSheet x = new SkateSheet();
        Sheets.write(x, "3T");
        Check.is(-1, x::errorPosition, "errorPosition() of 3T");
        Check.is(-1, x::errorPosition, "errorPosition() of 3T again");
        x.append('+');
        Check.is(3, x::errorPosition, "errorPosition() of 3T+");
        Check.is(3, x::errorPosition, "errorPosition() of 3T+ again");
        x.append('?');
        Check.is(3, x::errorPosition, "errorPosition() of 3T+?");
        Check.is(5, () -> x.append('1'), "append() behind an error");
        Check.is(3, x::errorPosition, "errorPosition() of 3T+?1");
        Check.is(5, x::clearText, "clearText() behind errors");
    }
}
