/** The boundaries of promises 20 to 24. */
public final class WouldBeEdgeTest {
    private static final String MIXED = "3Z;3Z<+2T;p3;3F+3F+1A;s2;3Ze;4A!;p0;3T+3Z+2O;p4;1T;s4";

    public static void main(String[] args) {
        everyCall();
        callsOfOthers();
        everyReplacement();
        replacedWithAllThatBelongsToIt();
        textOfOneElement();
        fewElements();
        everySwap();
        equalSwaps();
        everyNeed();
        leastAndGreatestNeed();
        equalNeeds();
        theOnlySkater();
        behindTheFirst();
        nothingChanges();
        Check.finish();
    }

    private static SkateSheet mixed() {
        SkateSheet x = Sheets.of(MIXED, "4A;4Z");
        x.set(1, 2);
        for (int e = 0; e < 12; e++) {
            x.mark(0, e, 13421 * e);
        }
        x.fall(0, 3, true);
        x.fall(0, 8, true);
        x.review(0, 5, true);
        x.component(0, 1, 99999999);
        x.penalty(0, 2);
        return x;
    }

    /** "the total of the skater behind call(s, e, k, call)": each part and each call. */
    private static void everyCall() {
        for (int e = 0; e < 12; e++) {
            for (int call = 0; call <= 3; call++) {
                callOfElement(mixed(), e, call);
            }
        }
    }

    private static void callOfElement(SkateSheet x, int e, int call) {
        int parts = x.element(0, e, 1);
        for (int k = 0; k < parts; k++) {
            int at = k;
            int kind = x.part(0, e, k, 0);
            String what = "ifCalled(0, " + e + ", " + k + ", " + call + ")";
            if (kind == -1 || call == 3 && kind != 3 && kind != 4) {
                Check.isState(() -> x.ifCalled(0, e, at, call), what);
            } else {
                int before = x.part(0, e, k, 2);
                int answer = x.ifCalled(0, e, k, call);
                Check.is(before, () -> x.call(0, e, at, call), "the call that ifCalled left, behind " + what);
                Check.is(x.skater(0, 4), () -> answer, what);
                x.undo();
            }
        }
    }

    /** A question about one skater does not read another one, and is asked again with the same answer. */
    private static void callsOfOthers() {
        SkateSheet x = Sheets.of("3F", "3Z", "3T", "3S");
        int[] shorter = {424, 472, 336, 344};
        for (int times = 0; times < 2; times++) {
            for (int s = 0; s < 4; s++) {
                int own = s;
                Check.is(shorter[s], () -> x.ifCalled(own, 0, 0, 1), "ifCalled(" + s + ", 0, 0, 1)");
            }
        }
        SkateSheet y = Sheets.of("3T;3T;3T");
        // a call does not make a jump another one: the reasons stay
        Check.is(420 + 91, () -> y.ifCalled(0, 1, 0, 2), "ifCalled of a repeated jump");
        Check.is(130 + 294, () -> y.ifCalled(0, 0, 0, 2), "ifCalled of a jump that is repeated");
        Check.is(420 + 294, () -> y.ifCalled(0, 2, 0, 2), "ifCalled of a jump worth nothing");
    }

    /** "if the element was replaced by that of the text": each element of twelve. */
    private static void everyReplacement() {
        for (String text : new String[] {"p4", "s0", "4A", "3Z!", "3Z+3Z", "1T+1T+3Fe", "1T!"}) {
            for (int e = 0; e < 12; e++) {
                SkateSheet x = mixed();
                Sheets.write(x, text);
                String[] elements = MIXED.split(";");
                elements[e] = text;
                SkateSheet y = Sheets.of(String.join(";", elements));
                y.set(1, 2);
                for (int i = 0; i < 12; i++) {
                    y.mark(0, i, i == e ? 80525 : 13421 * i);
                    y.fall(0, i, i != e && (i == 3 || i == 8));
                }
                y.component(0, 1, 99999999);
                y.penalty(0, 2);
                int at = e;
                Check.is(y.skater(0, 4), () -> x.ifReplaced(0, at), "ifReplaced(0, " + e + ") by " + text);
            }
        }
    }

    /** "with marks 0, without a fall"; components and points are the skater's. */
    private static void replacedWithAllThatBelongsToIt() {
        SkateSheet x = Sheets.of("3T");
        x.mark(0, 0, 161050);
        x.fall(0, 0, true);
        x.review(0, 0, true);
        x.component(0, 0, Sheets.components(4, 4, 4, 4, 4));
        x.penalty(0, 1);
        Sheets.write(x, "3T");
        Check.is(420 + 210 + 100 - 200, () -> x.skater(0, 4), "the total with marks and a fall");
        Check.is(420 + 100 - 100, () -> x.ifReplaced(0, 0), "ifReplaced by the same jump");
        Check.is(420 + 210 + 100 - 200, () -> x.skater(0, 4), "the total behind ifReplaced");
        Check.is(1, () -> x.element(0, 0, 7), "the review behind ifReplaced");
        Check.is(15, () -> x.element(0, 0, 3), "the kernel behind ifReplaced");
    }

    /** "IllegalStateException if the text is not a program of one element" */
    private static void textOfOneElement() {
        SkateSheet x = Sheets.of("1T;1O");
        String[] texts = {"p0", "s4", "4A", "4Ze", "1T+1T", "1T!+1O<+4Fe"};
        int[] due = {175, 445, 1305, 975, 135, 975};
        for (int i = 0; i < texts.length; i++) {
            int own = i;
            Sheets.write(x, texts[i]);
            Check.is(due[i], () -> x.ifReplaced(0, 0), "ifReplaced(0, 0) by " + texts[own]);
        }
        for (String text : new String[] {"", "p", "p0;p0", "p0;", ";p0", "1T+1T+1T+1T", "4A4A", "p0;p0;p0;p0;p0"}) {
            Sheets.write(x, text);
            Check.isState(() -> x.ifReplaced(0, 0), "ifReplaced(0, 0) by " + text);
        }
    }

    /** "NONE with fewer than two elements" */
    private static void fewElements() {
        SkateSheet[] few = {Scenes.bare(), Sheets.of("4A")};
        for (SkateSheet x : few) {
            for (int what = 0; what <= 2; what++) {
                int own = what;
                Check.is(-1, () -> x.bestSwap(0, own), "bestSwap(0, " + what + ") with fewer than two");
            }
        }
        SkateSheet two = Sheets.of("4A;1T");
        Check.is(40 + 1375, () -> two.bestSwap(0, 0), "bestSwap(0, 0) with two");
        Check.is(0, () -> two.bestSwap(0, 1), "bestSwap(0, 1) with two");
        Check.is(1, () -> two.bestSwap(0, 2), "bestSwap(0, 2) with two");
        // the only exchange there is, though it is worse; and a total that is the same as NONE
        SkateSheet worse = Sheets.of("1T;4A");
        Check.is(1250 + 44, () -> worse.bestSwap(0, 0), "bestSwap(0, 0) that is worse");
        Check.is(1, () -> worse.bestSwap(0, 2), "bestSwap(0, 2) that is worse");
        SkateSheet below = Sheets.of("1O;1O");
        below.set(4, 0);
        below.mark(0, 0, Sheets.marks(0, 0, 0, -1, -1));
        below.mark(0, 1, Sheets.marks(0, 0, 0, 0, 5));
        below.fall(0, 0, true);
        Check.is(-2, () -> below.bestSwap(0, 0), "bestSwap(0, 0) of a total below 0");
        Check.is(0, () -> below.bestSwap(0, 1), "bestSwap(0, 1) of a total below 0");
    }

    /** "Finds the best exchange of two elements of a program, with all that belongs to them": each pair of twelve. */
    private static void everySwap() {
        int best = Integer.MIN_VALUE;
        int first = 0;
        int second = 0;
        for (int i = 0; i < 12; i++) {
            for (int j = i + 1; j < 12; j++) {
                int total = swapped(i, j);
                if (total > best) {
                    best = total;
                    first = i;
                    second = j;
                }
            }
        }
        int[] due = {best, first, second};
        for (int what = 0; what <= 2; what++) {
            int own = what;
            Check.is(due[what], () -> mixed().bestSwap(0, own), "bestSwap(0, " + what + ") of twelve");
        }
    }

    private static int swapped(int i, int j) {
        String[] elements = MIXED.split(";");
        String last = elements[j];
        elements[j] = elements[i];
        elements[i] = last;
        SkateSheet x = Sheets.of(String.join(";", elements));
        x.set(1, 2);
        for (int e = 0; e < 12; e++) {
            int from = e == i ? j : e == j ? i : e;
            x.mark(0, e, 13421 * from);
            x.fall(0, e, from == 3 || from == 8);
        }
        x.component(0, 1, 99999999);
        x.penalty(0, 2);
        return x.skater(0, 4);
    }

    /** "of several the one with the lowest first one, then the lowest second one" */
    private static void equalSwaps() {
        swap("p1;p1;p1;p1;p1;p1;p1;p1;p1;p1;p1;p1", 0, 1);
        swap("p1;s1", 0, 1);
        swap("1T;p1;p1;p1;p1;p1", 0, 3);
        swap("p1;p1;1T;p1;p1;p1", 2, 3);
        swap("1T;1T;p1;p1;p1;p1", 0, 3);
        swap("p1;1T;1T;p1;p1;p1", 1, 3);
        swap("1T;4A;p1;p1;p1;1T", 1, 3);
        swap("p1;p1;p1;p1;p1;1T", 0, 1);
    }

    private static void swap(String text, int first, int second) {
        SkateSheet x = Sheets.of(text);
        x.set(3, 5);
        Check.is(first, () -> x.bestSwap(0, 1), "bestSwap(0, 1) of " + text);
        Check.is(second, () -> x.bestSwap(0, 2), "bestSwap(0, 2) of " + text);
        Check.is(first, () -> x.bestSwap(0, 1), "bestSwap(0, 1) of " + text + " again");
    }

    /** "the least kernel .. with which the skater would be first": each kernel tried with mark. */
    private static void everyNeed() {
        SkateSheet x = Sheets.of("3Z;p4;3T", "3Z;p4;3T", "3Z;3A");
        x.component(0, 0, Sheets.components(4, 4, 4, 4, 4));
        x.component(1, 0, Sheets.components(8, 8, 8, 8, 8));
        x.mark(0, 1, Sheets.marks(1));
        x.mark(2, 1, Sheets.marks(-3));
        for (int s = 0; s < 3; s++) {
            for (int e = 0; e < (s == 2 ? 2 : 3); e++) {
                int own = s;
                int at = e;
                Check.is(needed(x, s, e), () -> x.needs(own, at), "needs(" + s + ", " + e + ")");
            }
        }
    }

    private static int needed(SkateSheet x, int s, int e) {
        for (int kernel = -15; kernel <= 15; kernel++) {
            x.mark(s, e, Sheets.marks(5, Math.floorDiv(kernel, 3), Math.floorDiv(kernel + 1, 3),
                    Math.floorDiv(kernel + 2, 3), -5));
            int place = x.skater(s, 5);
            x.undo();
            if (place == 0) {
                return 100 + kernel;
            }
        }
        return -1;
    }

    /** "85 to 115; NONE if there is none" */
    private static void leastAndGreatestNeed() {
        SkateSheet x = Sheets.of("4A", "4A");
        Check.is(100, () -> x.needs(0, 0), "needs of the first one of equals");
        Check.is(101, () -> x.needs(1, 0), "needs of the second one of equals");
        x.mark(1, 0, 161050);
        Check.is(115, () -> x.needs(0, 0), "needs of all that there is, the first one of equals");
        x.mark(0, 0, 0);
        Check.is(115, () -> x.needs(0, 0), "needs does not look at the marks there are");
        x.penalty(0, 1);
        Check.is(-1, () -> x.needs(0, 0), "needs of more than there is");
        x.penalty(0, 0);
        x.mark(1, 0, 0);
        Check.is(85, () -> x.needs(0, 0), "needs of nothing, the first one of equals");
        Check.is(86, () -> x.needs(1, 0), "needs of the second one of equals, both with the least marks");
        x.mark(0, 0, 161050);
        Check.is(-1, () -> x.needs(1, 0), "needs of the second one of equals, the first one with the greatest marks");
        x.penalty(0, 9);
        // against 975: with -7 it is 958, with -6 it is 1000
        Check.is(94, () -> x.needs(1, 0), "needs against a skater with penalty points");
        SkateSheet y = Sheets.of("1T!", "1T", "1T!");
        Check.is(-1, () -> y.needs(0, 0), "needs of an element worth nothing, behind");
        Check.is(85, () -> y.needs(1, 0), "needs of one far ahead");
        y.penalty(1, 1);
        Check.is(85, () -> y.needs(0, 0), "needs of an element worth nothing, ahead");
        Check.is(-1, () -> y.needs(2, 0), "needs of an element worth nothing, with equals");
    }

    /** "would be first": of equal totals the technical score decides, then the lowest skater. */
    private static void equalNeeds() {
        SkateSheet x = Sheets.of("p4", "p4");
        x.component(0, 0, Sheets.components(4, 4, 4, 4, 4));
        // 400 with 300 against 300 and 10 a step: 400 with 400 is ahead
        Check.is(110, () -> x.needs(1, 0), "needs of equal totals with a greater technical score");
        // 360 against 400 and 10 a step
        SkateSheet y = Sheets.of("p4", "p4");
        y.component(1, 0, Sheets.components(4, 4, 4, 4, 4));
        y.mark(0, 0, Sheets.marks(2));
        Check.is(97, () -> y.needs(1, 0), "needs of equal totals with a lower technical score");
        Check.is(110, () -> y.needs(0, 0), "needs of the first one against components");
        y.penalty(0, 1);
        y.penalty(1, 2);
        // 200 and 10 a step against 200; then 260 against 200 and 10 a step
        Check.is(100, () -> y.needs(0, 0), "needs of equal totals and equal technical scores, the lower skater");
        Check.is(107, () -> y.needs(1, 0), "needs of equal totals and technical scores, the greater skater");
    }

    /** Alone, a skater is first with every kernel, whatever the total. */
    private static void theOnlySkater() {
        SkateSheet x = Sheets.of("p4;1T!");
        x.penalty(0, 9);
        Check.is(85, () -> x.needs(0, 0), "needs of the only skater");
        Check.is(85, () -> x.needs(0, 1), "needs of the only skater, an element worth nothing");
        Check.is(0, () -> x.behind(0), "behind(0) of the only skater");
        Check.is(0, () -> Scenes.bare().behind(0), "behind(0) of a skater without elements");
    }

    /** "the total of the first one, less that of the skater" */
    private static void behindTheFirst() {
        SkateSheet x = Sheets.of("1T", "1T", "1O", "1A");
        int[] first = {70, 70, 60, 0};
        int[] then = {0, 0, 890, 830};
        int[] below = {0, 900, 890, 830};
        for (int s = 0; s < 4; s++) {
            int own = s;
            Check.is(first[s], () -> x.behind(own), "behind(" + s + ")");
        }
        x.penalty(2, 9);
        x.penalty(3, 9);
        for (int s = 0; s < 4; s++) {
            int own = s;
            Check.is(then[s], () -> x.behind(own), "behind(" + s + ") with totals below 0");
        }
        x.penalty(1, 9);
        for (int s = 0; s < 4; s++) {
            int own = s;
            Check.is(below[s], () -> x.behind(own), "behind(" + s + ") with one total above 0");
        }
        x.penalty(0, 9);
        Check.is(70, () -> x.behind(1), "behind(1) with all totals below 0");
        Check.is(0, () -> x.behind(3), "behind(3) with all totals below 0");
    }

    /** "these and all following methods up to the save slots change nothing" */
    private static void nothingChanges() {
        Twins.Maker[] makers = {Scenes::some, Scenes::full, Scenes::restored};
        for (Twins.Maker maker : makers) {
            Twins.unchanged(maker, x -> x.ifCalled(0, 0, 0, 2), "ifCalled(0, 0, 0, 2)");
            Twins.unchanged(maker, x -> x.ifReplaced(0, 0), "ifReplaced(0, 0)");
            for (int what = 0; what <= 2; what++) {
                int own = what;
                Twins.unchanged(maker, x -> x.bestSwap(0, own), "bestSwap(0, " + what + ")");
            }
            Twins.unchanged(maker, x -> x.needs(0, 0), "needs(0, 0)");
            Twins.unchanged(maker, x -> x.behind(0), "behind(0)");
        }
    }
}
