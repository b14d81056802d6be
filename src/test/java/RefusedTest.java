/**
 * "A call that throws an exception changes nothing", and "If several exceptions apply to a call, the one that its
 * description names first is thrown": every refusal of every method, and the sheet behind it.
 */
public final class RefusedTest {
    private static final int LEAST = Integer.MIN_VALUE;
    private static final int GREATEST = Integer.MAX_VALUE;

    public static void main(String[] args) {
        texts();
        asked();
        askedParts();
        added();
        programs();
        marks();
        components();
        calls(SkateSheet::call, "call");
        calls(SkateSheet::ifCalled, "ifCalled");
        reviewsAndFalls();
        penalties();
        settings();
        undone();
        replaced();
        wouldBe();
        scripts();
        simulations();
        slots();
        withoutSkaters();
        Check.finish();
    }

    private interface PartCall {
        int of(SkateSheet x, int s, int e, int k, int call);
    }

    private static void index(Twins.Maker maker, Twins.Asked call, String what) {
        Twins.refused(IndexOutOfBoundsException.class, maker, call, what);
    }

    private static void argument(Twins.Maker maker, Twins.Asked call, String what) {
        Twins.refused(IllegalArgumentException.class, maker, call, what);
    }

    private static void state(Twins.Maker maker, Twins.Asked call, String what) {
        Twins.refused(IllegalStateException.class, maker, call, what);
    }

    /** Promise 2: c out of range comes first, then the full text. */
    private static void texts() {
        for (int c : new int[] {-1, 256, LEAST, GREATEST}) {
            argument(Scenes::empty, x -> x.append(c), "append(" + c + ") to no text");
            argument(Scenes::some, x -> x.append(c), "append(" + c + ") to a text");
            argument(Scenes::full, x -> x.append(c), "append(" + c + ") to a full text");
        }
        for (int c : new int[] {0, ';', '3', 255}) {
            state(Scenes::full, x -> x.append(c), "append(" + c + ") to a full text");
        }
    }

    /** Promises 5, 6 and 9. */
    private static void asked() {
        for (int what : new int[] {-1, 6, LEAST, GREATEST}) {
            argument(Scenes::some, x -> x.about(what), "about(" + what + ")");
            argument(Scenes::empty, x -> x.about(what), "about(" + what + ") without skaters");
        }
        for (int what : new int[] {-1, 5, LEAST, GREATEST}) {
            argument(Scenes::some, x -> x.setting(what), "setting(" + what + ")");
        }
        for (int what : new int[] {-1, 8, LEAST, GREATEST}) {
            argument(Scenes::some, x -> x.skater(1, what), "skater(1, " + what + ")");
            index(Scenes::some, x -> x.skater(2, what), "skater(2, " + what + ")");
        }
        for (int s : new int[] {-1, 2, LEAST, GREATEST}) {
            index(Scenes::some, x -> x.skater(s, 0), "skater(" + s + ", 0)");
        }
        index(Scenes::full, x -> x.skater(4, 7), "skater(4, 7) with 4 skaters");
    }

    /** Promises 7 and 8. */
    private static void askedParts() {
        for (int what : new int[] {-1, 9, LEAST, GREATEST}) {
            argument(Scenes::some, x -> x.element(0, 2, what), "element(0, 2, " + what + ")");
            index(Scenes::some, x -> x.element(0, 3, what), "element(0, 3, " + what + ")");
        }
        for (int what : new int[] {-1, 5, LEAST, GREATEST}) {
            argument(Scenes::some, x -> x.part(0, 0, 1, what), "part(0, 0, 1, " + what + ")");
            index(Scenes::some, x -> x.part(0, 0, 2, what), "part(0, 0, 2, " + what + ")");
        }
        for (int far : new int[] {-1, 3, 12, LEAST, GREATEST}) {
            index(Scenes::some, x -> x.element(far, 0, 0), "element(" + far + ", 0, 0)");
            index(Scenes::some, x -> x.element(0, far, 0), "element(0, " + far + ", 0)");
            index(Scenes::some, x -> x.part(far, 0, 0, 0), "part(" + far + ", 0, 0, 0)");
            index(Scenes::some, x -> x.part(0, far, 0, 0), "part(0, " + far + ", 0, 0)");
            index(Scenes::some, x -> x.part(0, 0, far, 0), "part(0, 0, " + far + ", 0)");
        }
        index(Scenes::some, x -> x.element(1, 1, 0), "element(1, 1, 0), there with another skater");
        index(Scenes::some, x -> x.part(0, 1, 1, 0), "a second part of a spin");
        index(Scenes::some, x -> x.part(0, 2, 1, 0), "a second part of steps");
        index(Scenes::some, x -> x.part(1, 0, 1, 0), "a second part of a single jump");
        index(Scenes::full, x -> x.part(0, 0, 3, 0), "a fourth part of a chain");
        index(Scenes::restored, x -> x.element(0, 12, 0), "a thirteenth element");
        index(Scenes::bare, x -> x.element(0, 0, 0), "an element of a skater without elements");
    }

    /** Promise 10. */
    private static void added() {
        state(Scenes::full, SkateSheet::add, "add() with 4 skaters");
    }

    /** Promise 11: the skater comes first, then the text. */
    private static void programs() {
        for (int s : new int[] {-1, 2, 3, LEAST, GREATEST}) {
            index(Scenes::some, x -> x.program(s), "program(" + s + ") of a program");
        }
        for (int s : new int[] {-1, 4, LEAST, GREATEST}) {
            index(Scenes::full, x -> x.program(s), "program(" + s + ") of no program");
        }
        for (int s = 0; s < 4; s++) {
            int own = s;
            state(Scenes::full, x -> x.program(own), "program(" + s + ") of a wrong text of 120 characters");
        }
        state(Scenes::bare, x -> x.program(0), "program(0) of no text");
        String[] wrong = {"3", "3T;", "3T+", "p", "s5", "0T", "3Te", "3T;p1;s4;", "3T;x", " 3T", "1A+1A+1A+1A",
            "p0;p0;p0;p0;p0;p0;p0;p0;p0;p0;p0;p0;p0"};
        for (String text : wrong) {
            Twins.Maker maker = () -> written(text);
            state(maker, x -> x.program(0), "program(0) of " + text);
            state(maker, x -> x.program(1), "program(1) of " + text);
            index(maker, x -> x.program(2), "program(2) of " + text);
        }
    }

    private static SkateSheet written(String text) {
        SkateSheet x = Scenes.some();
        Sheets.write(x, text);
        return x;
    }

    /** Promise 12: skater and element come first, then the marks. */
    private static void marks() {
        for (int marks : new int[] {-1, 161051, LEAST, GREATEST}) {
            argument(Scenes::some, x -> x.mark(0, 0, marks), "mark(0, 0, " + marks + ")");
            argument(Scenes::full, x -> x.mark(3, 0, marks), "mark(3, 0, " + marks + ") with 14 states");
            argument(Scenes::restored, x -> x.mark(0, 11, marks), "mark(0, 11, " + marks + ") with no state");
            index(Scenes::some, x -> x.mark(0, 3, marks), "mark(0, 3, " + marks + ")");
            index(Scenes::some, x -> x.mark(2, 0, marks), "mark(2, 0, " + marks + ")");
        }
        places((x, s, e) -> x.mark(s, e, 0), "mark");
    }

    /** Promise 13: skater and component come first, then the marks. */
    private static void components() {
        for (int marks : new int[] {-1, 115856201, LEAST, GREATEST}) {
            argument(Scenes::some, x -> x.component(1, 2, marks), "component(1, 2, " + marks + ")");
            argument(Scenes::full, x -> x.component(3, 0, marks), "component(3, 0, " + marks + ") with 14 states");
            index(Scenes::some, x -> x.component(1, 3, marks), "component(1, 3, " + marks + ")");
            index(Scenes::some, x -> x.component(2, 0, marks), "component(2, 0, " + marks + ")");
        }
        for (int far : new int[] {-1, 3, LEAST, GREATEST}) {
            index(Scenes::some, x -> x.component(0, far, 0), "component(0, " + far + ", 0)");
            index(Scenes::some, x -> x.component(far, 0, 0), "component(" + far + ", 0, 0)");
            index(Scenes::full, x -> x.component(0, far, 0), "component(0, " + far + ", 0) with 14 states");
        }
        index(Scenes::some, x -> x.component(2, 0, 0), "component(2, 0, 0)");
        index(Scenes::full, x -> x.component(4, 0, 0), "component(4, 0, 0)");
    }

    /** Promises 14 and 20: the part comes first, then the range of the call, then whether the part takes it. */
    private static void calls(PartCall by, String name) {
        for (int call : new int[] {-1, 4, LEAST, GREATEST}) {
            argument(Scenes::some, x -> by.of(x, 0, 0, 0, call), name + "(0, 0, 0, " + call + ")");
            argument(Scenes::some, x -> by.of(x, 0, 1, 0, call), name + "(0, 1, 0, " + call + ") of a spin");
            argument(Scenes::full, x -> by.of(x, 2, 0, 0, call), name + "(2, 0, 0, " + call + ") of steps");
            index(Scenes::some, x -> by.of(x, 0, 0, 2, call), name + "(0, 0, 2, " + call + ")");
            index(Scenes::some, x -> by.of(x, 0, 3, 0, call), name + "(0, 3, 0, " + call + ")");
            index(Scenes::some, x -> by.of(x, 2, 0, 0, call), name + "(2, 0, 0, " + call + ")");
        }
        for (int call = 0; call <= 3; call++) {
            int own = call;
            state(Scenes::some, x -> by.of(x, 0, 1, 0, own), name + "(0, 1, 0, " + call + ") of a spin");
            state(Scenes::some, x -> by.of(x, 0, 2, 0, own), name + "(0, 2, 0, " + call + ") of steps");
            state(Scenes::full, x -> by.of(x, 2, 0, 0, own), name + "(2, 0, 0, " + call + ") of steps, 14 states");
            index(Scenes::some, x -> by.of(x, 0, 1, 1, own), name + "(0, 1, 1, " + call + ") of a spin");
        }
        state(Scenes::some, x -> by.of(x, 0, 0, 1, 3), name + " from the wrong edge of T");
        state(Scenes::full, x -> by.of(x, 3, 0, 0, 3), name + " from the wrong edge of O");
        state(Scenes::some, x -> by.of(x, 1, 0, 0, 3), name + " from the wrong edge of A");
        state(Scenes::restored, x -> by.of(x, 0, 1, 0, 3), name + " from the wrong edge of S");
        for (int far : new int[] {-1, 3, LEAST, GREATEST}) {
            index(Scenes::some, x -> by.of(x, 0, 0, far, 0), name + "(0, 0, " + far + ", 0)");
            index(Scenes::full, x -> by.of(x, 0, 0, far, 3), name + "(0, 0, " + far + ", 3) with 14 states");
        }
        places((x, s, e) -> by.of(x, s, e, 0, 0), name);
    }

    private interface ElementCall {
        int of(SkateSheet x, int s, int e);
    }

    /** Skaters and elements that there are not. */
    private static void places(ElementCall by, String name) {
        for (int far : new int[] {-1, 12, LEAST, GREATEST}) {
            index(Scenes::some, x -> by.of(x, far, 0), name + " of skater " + far);
            index(Scenes::some, x -> by.of(x, 0, far), name + " of element " + far);
            index(Scenes::full, x -> by.of(x, 0, far), name + " of element " + far + " with 14 states");
        }
        index(Scenes::some, x -> by.of(x, 2, 0), name + " of the third one of two skaters");
        index(Scenes::full, x -> by.of(x, 4, 0), name + " of the fifth one of four skaters");
        index(Scenes::some, x -> by.of(x, 0, 3), name + " of the fourth one of three elements");
        index(Scenes::some, x -> by.of(x, 1, 2), name + " of an element that another skater has");
        index(Scenes::restored, x -> by.of(x, 0, 12), name + " of a thirteenth element");
        index(Scenes::bare, x -> by.of(x, 0, 0), name + " of a skater without elements");
    }

    /** Promises 15 and 16. */
    private static void reviewsAndFalls() {
        places((x, s, e) -> x.review(s, e, true), "review");
        places((x, s, e) -> x.review(s, e, false), "review taken back");
        places((x, s, e) -> x.fall(s, e, true), "fall");
        places((x, s, e) -> x.fall(s, e, false), "fall taken back");
    }

    /** Promise 17: the skater comes first, then the points. */
    private static void penalties() {
        for (int points : new int[] {-1, 10, LEAST, GREATEST}) {
            argument(Scenes::some, x -> x.penalty(1, points), "penalty(1, " + points + ")");
            argument(Scenes::full, x -> x.penalty(3, points), "penalty(3, " + points + ") with 14 states");
            index(Scenes::some, x -> x.penalty(2, points), "penalty(2, " + points + ")");
        }
        for (int s : new int[] {-1, 4, LEAST, GREATEST}) {
            index(Scenes::some, x -> x.penalty(s, 0), "penalty(" + s + ", 0)");
            index(Scenes::full, x -> x.penalty(s, 9), "penalty(" + s + ", 9) with 14 states");
        }
    }

    /** Promise 18. */
    private static void settings() {
        int[] least = {50, 0, 0, 0, 0};
        int[] greatest = {300, 5, 12, 5, 30};
        for (int what = 0; what <= 4; what++) {
            int own = what;
            for (int v : new int[] {least[what] - 1, greatest[what] + 1, LEAST, GREATEST}) {
                argument(Scenes::some, x -> x.set(own, v), "set(" + what + ", " + v + ")");
                argument(Scenes::full, x -> x.set(own, v), "set(" + what + ", " + v + ") with 14 states");
            }
        }
        for (int what : new int[] {-1, 5, LEAST, GREATEST}) {
            for (int v : new int[] {0, 5, 50, -1}) {
                argument(Scenes::some, x -> x.set(what, v), "set(" + what + ", " + v + ")");
            }
        }
    }

    /** Promise 19. */
    private static void undone() {
        state(Scenes::empty, SkateSheet::undo, "undo() of a new sheet");
        state(Scenes::restored, SkateSheet::undo, "undo() behind restore");
        Twins.Maker all = () -> undone(Scenes.full());
        state(all, SkateSheet::undo, "undo() behind all 14");
        Twins.Maker few = () -> undone(Scenes.bare());
        state(few, SkateSheet::undo, "undo() behind one of one");
    }

    private static SkateSheet undone(SkateSheet x) {
        int left = x.undo();
        while (left > 0) {
            left = x.undo();
        }
        return x;
    }

    /** Promise 21: skater and element come first, then the text. */
    private static void replaced() {
        places(SkateSheet::ifReplaced, "ifReplaced");
        state(Scenes::full, x -> x.ifReplaced(0, 0), "ifReplaced by a wrong text of 120 characters");
        state(Scenes::restored, x -> x.ifReplaced(0, 0), "ifReplaced by two elements");
        String[] wrong = {"", "3T;", "3T;3T", "p", "p5", "3T+2T+1T+1T", "x", "3Fe;",
            "p0;p0;p0;p0;p0;p0;p0;p0;p0;p0;p0;p0"};
        for (String text : wrong) {
            Twins.Maker maker = () -> written(text);
            state(maker, x -> x.ifReplaced(0, 2), "ifReplaced(0, 2) by " + text);
            index(maker, x -> x.ifReplaced(0, 3), "ifReplaced(0, 3) by " + text);
        }
    }

    /** Promises 22 to 24: the skater comes first, then what is asked. */
    private static void wouldBe() {
        for (int what : new int[] {-1, 3, LEAST, GREATEST}) {
            argument(Scenes::some, x -> x.bestSwap(0, what), "bestSwap(0, " + what + ")");
            argument(Scenes::bare, x -> x.bestSwap(0, what), "bestSwap(0, " + what + ") without elements");
            argument(Scenes::some, x -> x.bestSwap(1, what), "bestSwap(1, " + what + ") of one element");
            index(Scenes::some, x -> x.bestSwap(2, what), "bestSwap(2, " + what + ")");
        }
        for (int s : new int[] {-1, 2, 4, LEAST, GREATEST}) {
            index(Scenes::some, x -> x.bestSwap(s, 0), "bestSwap(" + s + ", 0)");
            index(Scenes::some, x -> x.behind(s), "behind(" + s + ")");
        }
        places(SkateSheet::needs, "needs");
    }

    /** Promise 25. */
    private static void scripts() {
        for (int n : new int[] {0, 4, -1, LEAST, GREATEST}) {
            for (long script : new long[] {0, 10001, -1}) {
                argument(Scenes::some, x -> x.runScript(n, script), "runScript(" + n + ", " + script + ")");
            }
        }
        long[] most = {99999, 9999999999L, 999999999999999L};
        for (int n = 1; n <= 3; n++) {
            int own = n;
            for (long script : new long[] {-1, Long.MIN_VALUE, most[n - 1] + 1, Long.MAX_VALUE, -10001}) {
                argument(Scenes::some, x -> x.runScript(own, script), "runScript(" + n + ", " + script + ")");
            }
        }
    }

    /** Promise 26. */
    private static void simulations() {
        for (int m : new int[] {0, 61, -1, LEAST, GREATEST}) {
            argument(Scenes::some, x -> x.simulate(1, m), "simulate(1, " + m + ")");
            argument(Scenes::full, x -> x.simulate(Long.MIN_VALUE, m), "simulate(least, " + m + ")");
        }
    }

    /** Promises 27 and 28: the slot comes first, then whether something is in it. */
    private static void slots() {
        for (int slot : new int[] {-1, 2, LEAST, GREATEST}) {
            index(Scenes::empty, x -> x.save(slot), "save(" + slot + ") of a new sheet");
            index(Scenes::full, x -> x.save(slot), "save(" + slot + ")");
            index(Scenes::empty, x -> x.restore(slot), "restore(" + slot + ") of a new sheet");
            index(Scenes::full, x -> x.restore(slot), "restore(" + slot + ")");
        }
        state(Scenes::empty, x -> x.restore(0), "restore(0) of a new sheet");
        state(Scenes::empty, x -> x.restore(1), "restore(1) of a new sheet");
        state(Scenes::some, x -> x.restore(0), "restore(0) with something in 1 alone");
        state(Scenes::restored, x -> x.restore(1), "restore(1) with something in 0 alone");
    }

    /** A new sheet has no skater 0, whatever else is wrong. */
    private static void withoutSkaters() {
        for (int far : new int[] {0, -1}) {
            index(Scenes::empty, x -> x.skater(0, far), "skater(0, " + far + ") of a new sheet");
            index(Scenes::empty, x -> x.element(0, 0, far), "element(0, 0, " + far + ") of a new sheet");
            index(Scenes::empty, x -> x.part(0, 0, 0, far), "part(0, 0, 0, " + far + ") of a new sheet");
            index(Scenes::empty, x -> x.mark(0, 0, far), "mark(0, 0, " + far + ") of a new sheet");
            index(Scenes::empty, x -> x.component(0, 0, far), "component(0, 0, " + far + ") of a new sheet");
            index(Scenes::empty, x -> x.call(0, 0, 0, far), "call(0, 0, 0, " + far + ") of a new sheet");
            index(Scenes::empty, x -> x.penalty(0, far), "penalty(0, " + far + ") of a new sheet");
            index(Scenes::empty, x -> x.ifCalled(0, 0, 0, far), "ifCalled(0, 0, 0, " + far + ") of a new sheet");
            index(Scenes::empty, x -> x.bestSwap(0, far), "bestSwap(0, " + far + ") of a new sheet");
        }
        index(Scenes::empty, x -> x.program(0), "program(0) of a new sheet");
        index(Scenes::empty, x -> x.review(0, 0, true), "review(0, 0, true) of a new sheet");
        index(Scenes::empty, x -> x.fall(0, 0, true), "fall(0, 0, true) of a new sheet");
        index(Scenes::empty, x -> x.ifReplaced(0, 0), "ifReplaced(0, 0) of a new sheet");
        index(Scenes::empty, x -> x.needs(0, 0), "needs(0, 0) of a new sheet");
        index(Scenes::empty, x -> x.behind(0), "behind(0) of a new sheet");
    }
}
