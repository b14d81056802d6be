/** Promises 20 to 24: what would be. */
public final class WouldBeTest {
    public static void main(String[] args) {
        ifCalled();
        ifReplaced();
        bestSwap();
        needs();
        behind();
        nothingStays();
        nothingChanges();
        Check.finish();
    }

    private static void ifCalled() {
        SkateSheet x = Sheets.of("3F+2T;p1;s1", "1T");
        x.fall(0, 0, true);
        x.mark(0, 0, Sheets.marks(1));
        // 530 and 130, 150, 180, a grade of 53; 100 off
        Check.is(943, () -> x.ifCalled(0, 0, 0, 0), "ifCalled to the same call");
        // 424 and a grade of 42 in their place
        Check.is(826, () -> x.ifCalled(0, 0, 0, 1), "ifCalled short");
        // 180 and a grade of 18
        Check.is(558, () -> x.ifCalled(0, 0, 0, 2), "ifCalled downgraded");
        Check.is(826, () -> x.ifCalled(0, 0, 0, 3), "ifCalled from the wrong edge");
        Check.is(853, () -> x.ifCalled(0, 0, 1, 2), "ifCalled of the second part");
        Check.isState(() -> x.ifCalled(0, 0, 1, 3), "ifCalled from the wrong edge of T");
        Check.isState(() -> x.ifCalled(0, 1, 0, 0), "ifCalled of a spin");
        Check.isState(() -> x.ifCalled(0, 2, 0, 3), "ifCalled of steps");
        Check.isArgument(() -> x.ifCalled(0, 1, 0, 4), "ifCalled(0, 1, 0, 4)");
        Check.isArgument(() -> x.ifCalled(0, 1, 0, -1), "ifCalled(0, 1, 0, -1)");
        Check.isIndex(() -> x.ifCalled(0, 1, 1, 4), "ifCalled(0, 1, 1, 4)");
        Check.isIndex(() -> x.ifCalled(0, 0, -1, 4), "ifCalled(0, 0, -1, 4)");
        Check.isIndex(() -> x.ifCalled(0, 3, 0, 4), "ifCalled(0, 3, 0, 4)");
        Check.isIndex(() -> x.ifCalled(0, -1, 0, 4), "ifCalled(0, -1, 0, 4)");
        Check.isIndex(() -> x.ifCalled(2, 0, 0, 4), "ifCalled(2, 0, 0, 4)");
        Check.isIndex(() -> x.ifCalled(-1, 0, 0, 4), "ifCalled(-1, 0, 0, 4)");
    }

    private static void ifReplaced() {
        SkateSheet x = Sheets.of("3T;p1", "3T");
        x.mark(0, 0, Sheets.marks(1));
        x.mark(0, 1, Sheets.marks(5));
        x.fall(0, 1, true);
        x.component(0, 0, Sheets.components(4, 4, 4, 4, 4));
        x.penalty(0, 1);
        // 420 and 42, 150 and 75, 100; 200 off
        Check.is(587, () -> x.skater(0, 4), "the total before");
        Sheets.write(x, "4T");
        // 462, 1045 with the bonus, 100; 100 off
        Check.is(1507, () -> x.ifReplaced(0, 1), "ifReplaced by a jump");
        Sheets.write(x, "3T");
        // 294 and the bonus: 323
        Check.is(785, () -> x.ifReplaced(0, 1), "ifReplaced by a repeated jump");
        Sheets.write(x, "3T<+2T+1T");
        // 336 and 130 and 40, with the bonus 557
        Check.is(1019, () -> x.ifReplaced(0, 1), "ifReplaced by a chain");
        Sheets.write(x, "p4");
        // the first element loses its marks, the second one keeps its marks and its fall
        Check.is(425, () -> x.ifReplaced(0, 0), "ifReplaced by a spin");
        Sheets.write(x, "s0");
        Check.is(150, () -> x.ifReplaced(1, 0), "ifReplaced of another skater");
        Check.is(-1, x::errorPosition, "the text behind it");
        Sheets.write(x, "3T;p1");
        Check.isState(() -> x.ifReplaced(0, 0), "ifReplaced by two elements");
        Sheets.write(x, "3T;");
        Check.isState(() -> x.ifReplaced(0, 0), "ifReplaced by no program");
        Sheets.write(x, "");
        Check.isState(() -> x.ifReplaced(0, 0), "ifReplaced by nothing");
        Check.isIndex(() -> x.ifReplaced(0, 2), "ifReplaced(0, 2)");
        Check.isIndex(() -> x.ifReplaced(0, -1), "ifReplaced(0, -1)");
        Check.isIndex(() -> x.ifReplaced(2, 0), "ifReplaced(2, 0)");
        Check.isIndex(() -> x.ifReplaced(-1, 0), "ifReplaced(-1, 0)");
    }

    private static void swap(String text, int total, int first, int second) {
        swap(Sheets.of(text), text, total, first, second);
    }

    private static void swap(SkateSheet x, String what, int total, int first, int second) {
        Check.is(total, () -> x.bestSwap(0, 0), "bestSwap(0, 0) of " + what);
        Check.is(first, () -> x.bestSwap(0, 1), "bestSwap(0, 1) of " + what);
        Check.is(second, () -> x.bestSwap(0, 2), "bestSwap(0, 2) of " + what);
    }

    private static void bestSwap() {
        swap("3T", -1, -1, -1);
        SkateSheet none = new SkateSheet();
        none.add();
        swap(none, "a skater without a program", -1, -1, -1);
        swap("3T;p1", 612, 0, 1);
        // the only exchange is worse
        swap("p1;3T", 570, 0, 1);
        // 950, 150, 462 to 420, 150, 1045
        swap("4T;p1;3T", 1615, 0, 2);
        swap("p1;p1;p1", 450, 0, 1);
        // 0 with 2 and 1 with 2 bring a bonus of 4: the lowest first one
        swap("1T;1T;p1", 234, 0, 2);
        // 0 with 2 and 0 with 3 bring a bonus of 4: the lowest second one
        swap("1T;p1;p1;p1", 494, 0, 2);
        // the third jump is worth nothing, 420 and 294 are left: calls go with their jumps
        swap("3T<;3T;3T", 714, 0, 2);
        // marks and falls go with the elements
        SkateSheet x = Sheets.of("3T;p1");
        x.mark(0, 0, Sheets.marks(5));
        x.fall(0, 1, true);
        swap(x, "a program with marks", 150 + 462 + 210 - 100, 0, 1);
        x.review(0, 0, true);
        x.component(0, 0, Sheets.components(4, 4, 4, 4, 4));
        x.penalty(0, 1);
        swap(x, "a skater with components and points", 722, 0, 1);
        // totals below 0
        SkateSheet y = Sheets.of("1T!;1T!");
        y.penalty(0, 9);
        swap(y, "a total below 0", -900, 0, 1);
        Check.isArgument(() -> x.bestSwap(0, 3), "bestSwap(0, 3)");
        Check.isArgument(() -> x.bestSwap(0, -1), "bestSwap(0, -1)");
        Check.isArgument(() -> none.bestSwap(0, 3), "bestSwap(0, 3) without elements");
        Check.isIndex(() -> x.bestSwap(1, 3), "bestSwap(1, 3)");
        Check.isIndex(() -> x.bestSwap(-1, 3), "bestSwap(-1, 3)");
    }

    private static void needs() {
        SkateSheet one = Sheets.of("3T");
        Check.is(85, () -> one.needs(0, 0), "needs() of the only skater");
        // 420 and 430, 14 a step
        SkateSheet x = Sheets.of("3T", "3S");
        Check.is(101, () -> x.needs(0, 0), "needs() of the second one");
        // the kernel of now does not matter
        x.mark(0, 0, Sheets.marks(5));
        Check.is(101, () -> x.needs(0, 0), "needs() of the first one");
        x.mark(0, 0, Sheets.marks(-5));
        Check.is(101, () -> x.needs(0, 0), "needs() with the least kernel");
        // 430 and 14.33 a step against 210: -15 steps are 215
        Check.is(85, () -> x.needs(1, 0), "needs() of one far ahead");
        // equal totals and technical scores: the lowest one is first
        SkateSheet y = Sheets.of("p4", "p4", "p4");
        Check.is(100, () -> y.needs(0, 0), "needs() of the lowest one of equals");
        Check.is(101, () -> y.needs(1, 0), "needs() of the second one of equals");
        y.penalty(1, 1);
        // 110 behind: a total of 300 with a technical score of 400 is first
        Check.is(110, () -> y.needs(1, 0), "needs() of a greater technical score");
        y.penalty(1, 0);
        // 100 ahead: with 10 steps less the totals are equal
        y.component(1, 0, Sheets.components(4, 4, 4, 4, 4));
        y.mark(1, 0, Sheets.marks(5));
        Check.is(91, () -> y.needs(1, 0), "needs() of a lower technical score");
        y.mark(2, 0, Sheets.marks(5));
        Check.is(106, () -> y.needs(1, 0), "needs() against the best of the others");
        SkateSheet far = Sheets.of("4A", "1T", "1T!");
        Check.is(-1, () -> far.needs(1, 0), "needs() of one far behind");
        Check.is(-1, () -> far.needs(2, 0), "needs() of an element that is worth nothing");
        Check.is(85, () -> far.needs(0, 0), "needs() of one far ahead");
        // 630 against 660: one step less is 642, two are 625
        SkateSheet edge = Sheets.of("3T", "3F+2T");
        edge.mark(0, 0, Sheets.marks(5));
        Check.is(99, () -> edge.needs(1, 0), "needs() of a chain");
        // 630 with a technical score of 530: the greatest kernel makes the totals equal
        SkateSheet most = Sheets.of("3T", "3F");
        most.component(1, 0, Sheets.components(4, 4, 4, 4, 4));
        Check.is(115, () -> most.needs(0, 0), "needs() of the greatest kernel");
        Check.isIndex(() -> x.needs(0, 1), "needs(0, 1)");
        Check.isIndex(() -> x.needs(0, -1), "needs(0, -1)");
        Check.isIndex(() -> x.needs(2, 0), "needs(2, 0)");
        Check.isIndex(() -> x.needs(-1, 0), "needs(-1, 0)");
    }

    private static void behind() {
        SkateSheet x = Sheets.of("3T", "3S", "p1");
        Check.is(10, () -> x.behind(0), "behind(0)");
        Check.is(0, () -> x.behind(1), "behind(1)");
        Check.is(280, () -> x.behind(2), "behind(2)");
        x.penalty(2, 9);
        Check.is(1180, () -> x.behind(2), "behind(2) with a total below 0");
        Check.isIndex(() -> x.behind(3), "behind(3)");
        Check.isIndex(() -> x.behind(-1), "behind(-1)");
        Check.isIndex(() -> new SkateSheet().behind(0), "behind(0) without skaters");
    }

    /** What a question tried is not in the program that is read next. */
    private static void nothingStays() {
        SkateSheet x = Sheets.of("3F+2T;p1;s1;3Z<");
        for (int e = 0; e < 4; e++) {
            x.mark(0, e, Sheets.marks(5));
            x.fall(0, e, true);
            x.review(0, e, true);
        }
        x.bestSwap(0, 0);
        x.ifCalled(0, 3, 0, 3);
        Sheets.write(x, "p1");
        // 660 and 180 and 519, without the second one 150; 265, 90 and 236 for marks; 300 off
        Check.is(660 + 150 + 180 + 519 + 265 + 90 + 236 - 300, () -> x.ifReplaced(0, 1), "ifReplaced behind bestSwap");
        x.bestSwap(0, 0);
        Sheets.write(x, "p1;s0;p2;s1");
        x.program(0);
        for (int e = 0; e < 4; e++) {
            int at = e;
            for (int what : new int[] {3, 6, 7}) {
                Check.is(0, () -> x.element(0, at, what), "element(0, " + at + ", " + what + ") behind bestSwap");
            }
            Check.is(0, () -> x.part(0, at, 0, 2), "the call of a spin or steps behind bestSwap");
        }
    }

    private static void nothingChanges() {
        SkateSheet x = Sheets.of("3F+2T;p1;s1;3F", "1T;2T");
        x.mark(0, 0, Sheets.marks(2));
        x.fall(0, 1, true);
        Sheets.write(x, "4T+4T");
        String before = Sheets.all(x);
        x.ifCalled(0, 0, 0, 3);
        x.ifReplaced(0, 2);
        x.bestSwap(0, 0);
        x.needs(1, 0);
        x.behind(1);
        x.runScript(3, 101012000351111L);
        x.simulate(5, 60);
        x.save(0);
        if (!before.equals(Sheets.all(x))) {
            Check.report("a question changes something");
        }
        Check.is(-1, x::errorPosition, "the text behind questions");
        Check.is(5, x::undo, "undo() behind questions");
        Check.is(4, x::undo, "undo() behind questions");
    }
}
