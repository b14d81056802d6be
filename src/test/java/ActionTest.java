/** Promises 10 to 19: the actions, and undo. */
public final class ActionTest {
    public static void main(String[] args) {
        adding();
        programs();
        marks();
        components();
        calls();
        reviews();
        falls();
        penalties();
        settings();
        undoing();
        Check.finish();
    }

    private static void adding() {
        SkateSheet x = new SkateSheet();
        for (int s = 0; s < 4; s++) {
            int due = s;
            Check.is(due, x::add, "add() number " + s);
            Check.is(due + 1, () -> x.about(0), "the skaters");
            Check.is(0, () -> x.skater(due, 0), "the elements of a new skater");
            Check.is(0, () -> x.skater(due, 4), "the total of a new skater");
        }
        Check.isState(x::add, "add() with 4 skaters");
        Check.is(4, () -> x.about(0), "the skaters behind it");
        // a skater that is there no more leaves nothing to the next one
        SkateSheet y = new SkateSheet();
        y.save(0);
        y.add();
        Sheets.give(y, 0, "3T;p1");
        y.penalty(0, 5);
        y.component(0, 1, Sheets.components(9, 9, 9, 9, 9));
        y.restore(0);
        Check.is(0, y::add, "add() behind restore()");
        Check.is(0, () -> y.skater(0, 0), "its elements");
        Check.is(0, () -> y.skater(0, 4), "its total");
        Check.is(0, () -> y.penalty(0, 1), "its penalty points");
    }

    private static void programs() {
        SkateSheet x = new SkateSheet();
        Check.isIndex(() -> x.program(0), "program(0) without skaters");
        x.add();
        Check.isIndex(() -> x.program(-1), "program(-1) without a text");
        Check.isIndex(() -> x.program(1), "program(1) without a text");
        Check.isState(() -> x.program(0), "program(0) without a text");
        Sheets.write(x, "3T+2T;p1;s4");
        Check.is(3, () -> x.program(0), "program(0)");
        Check.is(-1, x::errorPosition, "the text is kept");
        x.mark(0, 0, Sheets.marks(4));
        x.fall(0, 1, true);
        x.review(0, 2, true);
        x.component(0, 0, Sheets.components(4, 4, 4, 4, 4));
        x.penalty(0, 2);
        x.call(0, 0, 0, 1);
        Check.is(3, () -> x.program(0), "program(0) again");
        Check.is(0, () -> x.element(0, 0, 3), "the kernel behind it");
        Check.is(0, () -> x.element(0, 1, 6), "the fall behind it");
        Check.is(0, () -> x.element(0, 2, 7), "the review behind it");
        Check.is(0, () -> x.part(0, 0, 0, 2), "the call behind it");
        Check.is(100, () -> x.skater(0, 2), "the components stay");
        Check.is(200, () -> x.skater(0, 3), "the penalty points stay");
        Check.is(11, x::clearText, "the length of the text is kept");
        Check.is(3, () -> x.skater(0, 0), "the program does not go with the text");
    }

    private static void marks() {
        SkateSheet x = Sheets.of("3T;p1");
        Check.is(-15, () -> x.mark(0, 0, 0), "mark(0, 0, 0)");
        Check.is(15, () -> x.mark(0, 0, 161050), "mark(0, 0, 161050)");
        Check.is(0, () -> x.mark(0, 0, 80525), "mark(0, 0, 80525)");
        Check.is(3, () -> x.mark(0, 0, Sheets.marks(5, -5, 0, 1, 2)), "one greatest and one least");
        Check.is(7, () -> x.mark(0, 0, Sheets.marks(3, 3, 3, 1, 1)), "of several greatest just one");
        Check.is(-1, () -> x.mark(0, 0, Sheets.marks(-1, -1, 0, 0, 0)), "of several least just one");
        Check.is(7, () -> x.element(0, 0, 3) + 8, "the kernel is kept");
        int[] places = {5, 4, 3, 2, 1};
        for (int first = 0; first < 5; first++) {
            int f = first;
            Check.is(9, () -> x.mark(0, 1, Sheets.marks(places[f], places[(f + 1) % 5], places[(f + 2) % 5],
                    places[(f + 3) % 5], places[(f + 4) % 5])), "the judges turned by " + f);
        }
        Check.is(0, () -> x.element(0, 0, 3) + 1, "another element's kernel stays");
        Check.isArgument(() -> x.mark(0, 0, -1), "mark(0, 0, -1)");
        Check.isArgument(() -> x.mark(0, 0, 161051), "mark(0, 0, 161051)");
        Check.isIndex(() -> x.mark(0, 2, -1), "mark(0, 2, -1)");
        Check.isIndex(() -> x.mark(1, 0, 0), "mark(1, 0, 0)");
        Check.isIndex(() -> x.mark(-1, 0, 0), "mark(-1, 0, 0)");
        Check.isIndex(() -> x.mark(0, -1, 0), "mark(0, -1, 0)");
    }

    private static void components() {
        SkateSheet x = Sheets.of("3T");
        Check.is(0, () -> x.component(0, 0, 0), "component(0, 0, 0)");
        Check.is(1000, () -> x.component(0, 0, 115856200), "component(0, 0, 115856200)");
        Check.is(8, () -> x.component(0, 1, Sheets.components(0, 1, 0, 1, 0)), "25 of 3");
        Check.is(17, () -> x.component(0, 1, Sheets.components(1, 1, 0, 9, 0)), "50 of 3");
        Check.is(25, () -> x.component(0, 1, Sheets.components(1, 40, 0, 1, 1)), "75 of 3");
        Check.is(475, () -> x.component(0, 2, Sheets.components(3, 10, 20, 27, 40)), "1425 of 3");
        Check.is(475, () -> x.component(0, 2, Sheets.components(40, 27, 10, 3, 20)), "1425 of 3, turned");
        Check.is(1500, () -> x.skater(0, 2), "the components together");
        Check.isArgument(() -> x.component(0, 0, -1), "component(0, 0, -1)");
        Check.isArgument(() -> x.component(0, 0, 115856201), "component(0, 0, 115856201)");
        Check.isIndex(() -> x.component(0, 3, -1), "component(0, 3, -1)");
        Check.isIndex(() -> x.component(0, -1, 0), "component(0, -1, 0)");
        Check.isIndex(() -> x.component(1, 0, -1), "component(1, 0, -1)");
        Check.isIndex(() -> x.component(-1, 0, 0), "component(-1, 0, 0)");
        x.set(0, 200);
        Check.is(25, () -> x.component(0, 1, Sheets.components(1, 1, 1, 1, 1)), "a component without setting 0");
    }

    private static void calls() {
        SkateSheet x = Sheets.of("3F<+3Z+3T;p1;s1");
        Check.is(1, () -> x.call(0, 0, 0, 3), "call of F");
        Check.is(3, () -> x.call(0, 0, 0, 2), "call of F again");
        Check.is(2, () -> x.call(0, 0, 0, 0), "call taken back");
        Check.is(0, () -> x.call(0, 0, 0, 0), "call of the same");
        Check.is(0, () -> x.call(0, 0, 1, 3), "call of Z");
        Check.is(3, () -> x.part(0, 0, 1, 2), "the call is kept");
        Check.is(472, () -> x.part(0, 0, 1, 3), "the call counts");
        for (char kind : "TSOA".toCharArray()) {
            SkateSheet y = Sheets.of("3" + kind);
            Check.isState(() -> y.call(0, 0, 0, 3), "the wrong edge of " + kind);
            Check.is(0, () -> y.call(0, 0, 0, 1), "another call of " + kind);
            Check.is(1, () -> y.call(0, 0, 0, 2), "a third call of " + kind);
        }
        for (int e = 1; e <= 2; e++) {
            int at = e;
            for (int call = 0; call <= 3; call++) {
                int c = call;
                Check.isState(() -> x.call(0, at, 0, c), "call(0, " + at + ", 0, " + c + ")");
            }
            Check.isArgument(() -> x.call(0, at, 0, 4), "call(0, " + at + ", 0, 4)");
            Check.isIndex(() -> x.call(0, at, 1, 4), "call(0, " + at + ", 1, 4)");
        }
        Check.isArgument(() -> x.call(0, 0, 2, -1), "call(0, 0, 2, -1)");
        Check.isArgument(() -> x.call(0, 0, 2, 4), "call(0, 0, 2, 4)");
        Check.isIndex(() -> x.call(0, 0, 3, 4), "call(0, 0, 3, 4)");
        Check.isIndex(() -> x.call(0, 0, -1, 4), "call(0, 0, -1, 4)");
        Check.isIndex(() -> x.call(0, 3, 0, 4), "call(0, 3, 0, 4)");
        Check.isIndex(() -> x.call(0, -1, 0, 4), "call(0, -1, 0, 4)");
        Check.isIndex(() -> x.call(1, 0, 0, 4), "call(1, 0, 0, 4)");
        Check.isIndex(() -> x.call(-1, 0, 0, 4), "call(-1, 0, 0, 4)");
    }

    private static void reviews() {
        SkateSheet x = Sheets.of("3T;p1", "s1");
        Check.is(1, () -> x.review(0, 1, true), "a first review");
        Check.is(2, () -> x.review(1, 0, true), "a second review, of another skater");
        Check.is(2, () -> x.review(1, 0, true), "the same review");
        Check.is(1, () -> x.review(0, 1, false), "a review taken back");
        Check.is(1, () -> x.review(0, 0, false), "a review taken back that was none");
        Check.is(0, () -> x.skater(0, 7), "the reviews of 0");
        Check.is(1, () -> x.skater(1, 7), "the reviews of 1");
        Check.isIndex(() -> x.review(0, 2, true), "review(0, 2, true)");
        Check.isIndex(() -> x.review(0, -1, true), "review(0, -1, true)");
        Check.isIndex(() -> x.review(2, 0, true), "review(2, 0, true)");
        Check.isIndex(() -> x.review(-1, 0, true), "review(-1, 0, true)");
    }

    private static void falls() {
        SkateSheet x = Sheets.of("3T;p1", "s1");
        Check.is(1, () -> x.fall(0, 1, true), "a first fall");
        Check.is(1, () -> x.fall(1, 0, true), "a fall of another skater");
        Check.is(1, () -> x.fall(0, 1, true), "one in an element at most");
        Check.is(2, () -> x.fall(0, 0, true), "a second fall");
        Check.is(200, () -> x.skater(0, 3), "what two falls take off");
        Check.is(1, () -> x.fall(0, 1, false), "a fall taken back");
        Check.is(0, () -> x.element(0, 1, 6), "it is taken back");
        Check.isIndex(() -> x.fall(0, 2, true), "fall(0, 2, true)");
        Check.isIndex(() -> x.fall(0, -1, true), "fall(0, -1, true)");
        Check.isIndex(() -> x.fall(2, 0, true), "fall(2, 0, true)");
        Check.isIndex(() -> x.fall(-1, 0, true), "fall(-1, 0, true)");
    }

    private static void penalties() {
        SkateSheet x = Sheets.of("3T", "3T");
        Check.is(0, () -> x.penalty(0, 9), "penalty(0, 9)");
        Check.is(900, () -> x.skater(0, 3), "what it takes off");
        Check.is(9, () -> x.penalty(0, 2), "penalty(0, 2)");
        Check.is(2, () -> x.penalty(0, 0), "penalty(0, 0)");
        Check.is(0, () -> x.penalty(1, 1), "penalty(1, 1)");
        Check.isArgument(() -> x.penalty(0, 10), "penalty(0, 10)");
        Check.isArgument(() -> x.penalty(0, -1), "penalty(0, -1)");
        Check.isIndex(() -> x.penalty(2, 10), "penalty(2, 10)");
        Check.isIndex(() -> x.penalty(-1, 10), "penalty(-1, 10)");
    }

    private static void settings() {
        SkateSheet x = new SkateSheet();
        int[] first = {100, 3, 7, 3, 10};
        int[] least = {50, 0, 0, 0, 0};
        int[] greatest = {300, 5, 12, 5, 30};
        for (int what = 0; what < 5; what++) {
            int w = what;
            Check.is(first[w], () -> x.set(w, least[w]), "set to the least " + w);
            Check.is(least[w], () -> x.setting(w), "the least " + w);
            Check.is(least[w], () -> x.set(w, greatest[w]), "set to the greatest " + w);
            Check.is(greatest[w], () -> x.setting(w), "the greatest " + w);
            Check.isArgument(() -> x.set(w, least[w] - 1), "set below the least " + w);
            Check.isArgument(() -> x.set(w, greatest[w] + 1), "set above the greatest " + w);
            Check.isArgument(() -> x.set(w, Integer.MAX_VALUE), "set far above " + w);
            Check.isArgument(() -> x.set(w, Integer.MIN_VALUE), "set far below " + w);
            Check.is(greatest[w], () -> x.setting(w), "the setting behind it " + w);
        }
        Check.isArgument(() -> x.set(-1, 1), "set(-1, 1)");
        Check.isArgument(() -> x.set(5, 1), "set(5, 1)");
    }

    private static void undoing() {
        SkateSheet x = new SkateSheet();
        Check.isState(x::undo, "undo() of nothing");
        x.add();
        x.add();
        Check.is(1, x::undo, "undo() of the second one");
        Check.is(1, () -> x.about(0), "the skaters behind it");
        Check.is(0, x::undo, "undo() of the first one");
        Check.is(0, () -> x.about(0), "the skaters behind it");
        Check.isState(x::undo, "undo() of nothing more");
        // an action that makes nothing different is one; undo is none
        x.set(0, 100);
        x.set(0, 100);
        Check.is(1, x::undo, "undo() of a set to the same");
        Check.is(0, x::undo, "undo() of another one");
        // the text is not taken back
        x.add();
        Sheets.write(x, "3T");
        x.program(0);
        Sheets.write(x, "3T;p1");
        x.undo();
        Check.is(5, x::clearText, "the text behind undo()");
    }
}
