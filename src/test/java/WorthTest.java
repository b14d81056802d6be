/** Promises 5 to 9, and the terms that they tell of: what parts, elements and skaters are worth, and why. */
public final class WorthTest {
    private static final String KINDS = "TSOFZA";
    private static final int[][] JUMPS = {
        {40, 130, 420, 950}, {40, 130, 430, 970}, {50, 170, 490, 1050},
        {50, 180, 530, 1100}, {60, 210, 590, 1150}, {110, 330, 800, 1250}};
    private static final int[] SPINS = {120, 150, 190, 240, 300};
    private static final int[] STEPS = {150, 180, 260, 330, 390};

    public static void main(String[] args) {
        jumps();
        levels();
        reasons();
        repeatsOfEveryKind();
        tooMany();
        bonus();
        rounding();
        grades();
        elementNumbers();
        skaterNumbers();
        places();
        abouts();
        wrongArguments();
        Check.finish();
    }

    private static void jumps() {
        for (int kind = 0; kind < 6; kind++) {
            for (int turns = 1; turns <= 4; turns++) {
                int full = JUMPS[kind][turns - 1];
                int less = turns == 1 ? 0 : JUMPS[kind][turns - 2];
                jump(kind, turns, "", 0, full);
                jump(kind, turns, "<", 1, full * 8 / 10);
                jump(kind, turns, "!", 2, less);
                if (kind == 3 || kind == 4) {
                    jump(kind, turns, "e", 3, full * 8 / 10);
                }
            }
        }
    }

    private static void jump(int kind, int turns, String sign, int call, int worth) {
        String text = turns + KINDS.substring(kind, kind + 1) + sign;
        SkateSheet x = Sheets.of(text);
        int[] due = {kind, turns, call, worth, 0};
        for (int what = 0; what <= 4; what++) {
            int w = what;
            Check.is(due[w], () -> x.part(0, 0, 0, w), "part(0, 0, 0, " + w + ") of " + text);
        }
        Check.is(0, () -> x.element(0, 0, 0), "the type of " + text);
        Check.is(1, () -> x.element(0, 0, 1), "the parts of " + text);
        Check.is(worth, () -> x.element(0, 0, 2), "the base of " + text);
        Check.is(worth, () -> x.element(0, 0, 5), "the score of " + text);
    }

    private static void levels() {
        for (int level = 0; level <= 4; level++) {
            level("p", 1, level, SPINS[level]);
            level("s", 2, level, STEPS[level]);
        }
    }

    private static void level(String sign, int type, int level, int worth) {
        String text = sign + level;
        SkateSheet x = Sheets.of(text);
        int[] due = {-1, level, 0, worth, 0};
        for (int what = 0; what <= 4; what++) {
            int w = what;
            Check.is(due[w], () -> x.part(0, 0, 0, w), "part(0, 0, 0, " + w + ") of " + text);
        }
        Check.is(type, () -> x.element(0, 0, 0), "the type of " + text);
        Check.is(1, () -> x.element(0, 0, 1), "the parts of " + text);
        Check.is(worth, () -> x.element(0, 0, 2), "the base of " + text);
        Check.is(0, () -> x.element(0, 0, 8), "the bonus of " + text);
    }

    /** The reasons of all parts, elements with a blank between them. */
    private static String told(SkateSheet x) {
        StringBuilder b = new StringBuilder();
        for (int e = 0; e < x.skater(0, 0); e++) {
            b.append(e == 0 ? "" : " ");
            for (int k = 0; k < x.element(0, e, 1); k++) {
                b.append(x.part(0, e, k, 4));
            }
        }
        return b.toString();
    }

    private static SkateSheet reasons(String due, String text, int... settings) {
        SkateSheet x = Sheets.of(text);
        for (int i = 0; i < settings.length; i += 2) {
            x.set(settings[i], settings[i + 1]);
        }
        String got = told(x);
        if (!got.equals(due)) {
            Check.report("the reasons of " + text + " are " + got + ", due is " + due);
        }
        Check.is(due.replaceAll("[ 0]", "").length(), () -> x.about(5), "about(5) of " + text);
        for (int e = 0; e < x.skater(0, 0); e++) {
            for (int k = 0; k < x.element(0, e, 1); k++) {
                int at = e;
                int part = k;
                if (x.part(0, e, k, 4) > 1) {
                    Check.is(0, () -> x.part(0, at, part, 3), "the worth of a part with a reason in " + text);
                }
            }
        }
        return x;
    }

    private static void reasons() {
        // 2 and 1
        reasons("0 1 2 2", "3T;3T;3T;3T");
        reasons("0 1 2", "3T;3T<;3T!");
        reasons("0 1", "3Fe;3F");
        reasons("0 0 0", "3T;4T;3S");
        reasons("0 0 0 0", "2A;2A;2A;1A");
        reasons("0 00 2", "3T;3T+2T;3T");
        reasons("00 0 2", "3T+2T;3T;3T");
        reasons("00 20", "3T+3T;3T+2T");
        reasons("002 2", "3T+3T+3T;3T");
        reasons("0 1 20", "4A;4A;4A+2T");
        reasons("0 0 0 1 2", "p1;3Z;s1;3Z;3Z");
        // 3
        reasons("00 00 00 03", "2T+2T;2T+2T;2T+2T;2T+2T");
        reasons("00 00 00 0 033", "2T+2T;2T+2T;2T+2T;2T;1T+1T+1T");
        reasons("033 03", "1T+1T+1T;1T+1T", 1, 0);
        reasons("00 03", "1T+1T;1T+1T", 1, 1);
        reasons("00 00 00 00 00 03", "1T+1T;1S+1T;1O+1T;1F+1T;1Z+1T;1A+1T", 1, 5);
        reasons("03 0 1 2", "2T+3T;3T;3T;3T", 1, 0);
        reasons("03 0 2", "3T+2T;3T;3T", 1, 0);
        reasons("00 03 0 2", "1T+1T;3T+3T;3T;3T", 1, 1);
        // 4
        reasons("000 004 00", "1T+1T+1T;1T+1T+1T;1T+1T");
        reasons("000 004 004", "1T+1T+1T;1T+1T+1T;1T+1T+1T");
        reasons("000 033", "1T+1T+1T;1T+1T+1T", 1, 1);
        reasons("000 004 0 1", "1T+1T+1T;1T+1T+3T;3T;3T");
        reasons("000 004", "3T+3S+1T;3F+3F+3F");
        reasons("000 024", "3F+2T+3F;1A+3F+3F");
        // 5
        reasons("0 5 5", "2A;2A;2A", 2, 1);
        reasons("5 5", "2A;1A", 2, 0);
        reasons("0 555", "3A;3A+3A+3A", 2, 1);
        reasons("0 0 0 0 0 0 0 5", "1T;1T;1T;1T;1T;1T;1T;1T");
        reasons("0 0 0 0 5", "1T;p1;1T;s1;1T", 2, 2);
        reasons("0 0 0 5", "p1;p1;p1;p1");
        reasons("0 5 0", "p1;p4;1T", 3, 1);
        reasons("5 0 0", "p1;s1;1T", 3, 0);
        reasons("0 5 0 5", "s0;s4;1T;s4");
        reasons("0 0 0 0 0 0 0 0 0 0 0 0", "1T;1T;1T;1T;1T;1T;1T;1T;1T;1T;1T;1T", 2, 12);
    }

    private static void repeatsOfEveryKind() {
        for (int kind = 0; kind < 6; kind++) {
            for (int turns = 1; turns <= 4; turns++) {
                String jump = turns + KINDS.substring(kind, kind + 1);
                boolean hard = turns >= 3;
                String text = jump + ";" + jump + ";" + jump;
                SkateSheet x = reasons(hard ? "0 1 2" : "0 0 0", text);
                int full = JUMPS[kind][turns - 1];
                Check.is(full, () -> x.part(0, 0, 0, 3), "the first worth of " + text);
                Check.is(hard ? full * 7 / 10 : full, () -> x.part(0, 1, 0, 3), "the second worth of " + text);
                Check.is(hard ? 0 : full, () -> x.part(0, 2, 0, 3), "the third worth of " + text);
            }
        }
    }

    private static void tooMany() {
        SkateSheet x = Sheets.of("2A;2A;3A+3A");
        x.set(2, 1);
        Check.is(330, () -> x.element(0, 0, 2), "the base of an element that is not too many");
        Check.is(0, () -> x.element(0, 1, 2), "the base of a jump element too many");
        Check.is(0, () -> x.element(0, 2, 8), "the bonus of a jump element too many");
        x.mark(0, 2, Sheets.marks(5));
        Check.is(0, () -> x.element(0, 2, 4), "the grade of a jump element too many");
        Check.is(15, () -> x.element(0, 2, 3), "the kernel of a jump element too many");
        Check.is(330, () -> x.skater(0, 1), "the technical score with elements too many");
    }

    private static void bonus() {
        SkateSheet x = Sheets.of("2A");
        Check.is(0, () -> x.element(0, 0, 8), "the bonus of the only element");
        Sheets.give(x, 0, "2A;2A");
        Check.is(0, () -> x.element(0, 0, 8), "the bonus of 0 of 2");
        Check.is(1, () -> x.element(0, 1, 8), "the bonus of 1 of 2");
        Check.is(363, () -> x.element(0, 1, 2), "the base of 1 of 2");
        Check.is(330, () -> x.part(0, 1, 0, 3), "the part of 1 of 2");
        Sheets.give(x, 0, "2A;2A;2A");
        Check.is(0, () -> x.element(0, 1, 8), "the bonus of 1 of 3");
        Check.is(1, () -> x.element(0, 2, 8), "the bonus of 2 of 3");
        Sheets.give(x, 0, "p1;s1;p1;2A+2A");
        Check.is(0, () -> x.element(0, 2, 8), "the bonus of a spin");
        Check.is(1, () -> x.element(0, 3, 8), "the bonus of a chain");
        Check.is(726, () -> x.element(0, 3, 2), "the base of a chain with a bonus");
        x.set(4, 30);
        Check.is(858, () -> x.element(0, 3, 2), "the base with 30 percent");
        x.set(4, 0);
        Check.is(660, () -> x.element(0, 3, 2), "the base with 0 percent");
        Check.is(1, () -> x.element(0, 3, 8), "the bonus of 0 percent");
        Sheets.give(x, 0, "1T;s1;s1;s1");
        Check.is(0, () -> x.element(0, 2, 8), "the bonus of steps");
        Check.is(0, () -> x.element(0, 2, 2), "the base of the second steps");
        // nothing, but not for the reason 5: there is a bonus
        Sheets.give(x, 0, "3A;3A;3A");
        Check.is(1, () -> x.element(0, 2, 8), "the bonus of a jump with reason 2");
        Check.is(0, () -> x.element(0, 2, 2), "the base of a jump with reason 2");
    }

    /** One after the other: the call, the reason 1, the bonus. */
    private static void rounding() {
        SkateSheet x = Sheets.of("3T;3T<");
        Check.is(235, () -> x.part(0, 1, 0, 3), "70 percent of 336");
        Check.is(259, () -> x.element(0, 1, 2), "110 percent of 235");
        Sheets.give(x, 0, "3O;3O<");
        Check.is(274, () -> x.part(0, 1, 0, 3), "70 percent of 392");
        Check.is(301, () -> x.element(0, 1, 2), "110 percent of 274");
        Sheets.give(x, 0, "3S;3S<");
        Check.is(241, () -> x.part(0, 1, 0, 3), "70 percent of 344");
        Check.is(265, () -> x.element(0, 1, 2), "110 percent of 241");
        Sheets.give(x, 0, "3F<;3Fe");
        Check.is(297, () -> x.part(0, 1, 0, 3), "70 percent of 424");
        x.set(4, 17);
        Check.is(347, () -> x.element(0, 1, 2), "117 percent of 297: 347.49");
        x.set(4, 10);
        Sheets.give(x, 0, "3F;3F!");
        Check.is(126, () -> x.part(0, 1, 0, 3), "70 percent of 180");
        Sheets.give(x, 0, "p1;1T+1T<+1S<");
        x.set(4, 1);
        Check.is(105, () -> x.element(0, 1, 2), "101 percent of 104");
        x.set(4, 11);
        Check.is(115, () -> x.element(0, 1, 2), "111 percent of 104");
    }

    private static void grade(int due, String text, int e, int marks, String what) {
        SkateSheet x = Sheets.of(text);
        x.mark(0, e, marks);
        Check.is(due, () -> x.element(0, e, 4), "the grade of " + what + " in " + text);
        Check.is(x.element(0, e, 2) + due, () -> x.element(0, e, 5), "the score of " + what + " in " + text);
    }

    private static void grades() {
        grade(0, "3T", 0, Sheets.marks(0), "kernel 0");
        grade(210, "3T", 0, Sheets.marks(5), "kernel 15");
        grade(-210, "3T", 0, Sheets.marks(-5), "kernel -15");
        grade(4, "2T", 0, Sheets.marks(1, 0, 0, 1, 0), "kernel 1, 4 and a third");
        grade(9, "2T", 0, Sheets.marks(1, 1, 0, 1, 0), "kernel 2, 8 and two thirds");
        grade(-4, "2T", 0, Sheets.marks(-1, 0, 0, -1, 0), "kernel -1");
        grade(-9, "2T", 0, Sheets.marks(-1, -1, 0, -1, 0), "kernel -2");
        // 235 of 3T repeated: 3 times 235 is 705, a half behind 23
        grade(24, "3T;3T<", 1, Sheets.marks(1), "kernel 3 and a half");
        grade(-24, "3T;3T<", 1, Sheets.marks(-1), "kernel -3 and a half");
        grade(121, "3S;3S<", 1, Sheets.marks(5), "kernel 15 and a half");
        grade(-121, "3S;3S<", 1, Sheets.marks(-5), "kernel -15 and a half");
        grade(112, "3S;3S<", 1, Sheets.marks(5, 4, 5, 4, 5), "kernel 14 and 14 thirtieths");
        grade(-112, "3S;3S<", 1, Sheets.marks(-5, -4, -5, -4, -5), "kernel -14 and 14 thirtieths");
        // the greatest part counts, wherever it stands, with its call and reason, without bonus
        grade(42, "2T+3T+2T", 0, Sheets.marks(1), "the middle part");
        grade(42, "3T+2T+2T", 0, Sheets.marks(1), "the first part");
        grade(42, "2T+2T+3T", 0, Sheets.marks(1), "the last part");
        grade(34, "3T<+2T", 0, Sheets.marks(1), "a part with a call");
        grade(42, "p1;3T", 1, Sheets.marks(1), "a part with a bonus");
        grade(29, "3T;3T", 1, Sheets.marks(1), "a part with reason 1");
        grade(13, "3T;3T;3T+2T", 2, Sheets.marks(1), "a chain with reason 2");
        grade(0, "3T;3T;3T", 2, Sheets.marks(1), "a jump with reason 2");
        grade(30, "p4", 0, Sheets.marks(1), "a spin");
        grade(39, "s4", 0, Sheets.marks(1), "steps");
    }

    private static void elementNumbers() {
        SkateSheet x = Sheets.of("3T+2T;p4;s2", "2A");
        int[] chain = {0, 2, 550, 6, 84, 634, 1, 0, 0};
        int[] spin = {1, 1, 300, -3, -30, 270, 0, 1, 0};
        int[] steps = {2, 1, 260, 0, 0, 260, 0, 0, 0};
        x.mark(0, 0, Sheets.marks(2));
        x.mark(0, 1, Sheets.marks(-1));
        x.fall(0, 0, true);
        x.review(0, 1, true);
        for (int what = 0; what <= 8; what++) {
            int w = what;
            Check.is(chain[w], () -> x.element(0, 0, w), "element(0, 0, " + w + ")");
            Check.is(spin[w], () -> x.element(0, 1, w), "element(0, 1, " + w + ")");
            Check.is(steps[w], () -> x.element(0, 2, w), "element(0, 2, " + w + ")");
        }
        Check.is(330, () -> x.part(1, 0, 0, 3), "a part of another skater");
        Check.is(420, () -> x.part(0, 0, 0, 3), "a part of the first skater behind it");
        x.set(2, 0);
        Check.is(5, () -> x.part(1, 0, 0, 4), "the reason of a part of another skater");
        Check.is(0, () -> x.part(0, 1, 0, 4), "the reason of a spin of the first skater behind it");
    }

    private static void skaterNumbers() {
        SkateSheet x = Sheets.of("3T;p4", "2A");
        x.mark(0, 1, Sheets.marks(1));
        x.component(0, 0, Sheets.components(19, 19, 19, 19, 19));
        x.component(0, 2, Sheets.components(40, 40, 40, 40, 40));
        x.set(0, 50);
        x.fall(0, 0, true);
        x.fall(0, 1, true);
        x.penalty(0, 3);
        x.review(0, 1, true);
        // 420 and 300 and 30; half of 475 and 1000, rounded up; 2 falls and 3 points
        int[] due = {2, 750, 738, 500, 988, 0, 2, 1};
        for (int what = 0; what <= 7; what++) {
            int w = what;
            Check.is(due[w], () -> x.skater(0, w), "skater(0, " + w + ")");
        }
        int[] other = {1, 330, 0, 0, 330, 1, 0, 0};
        for (int what = 0; what <= 7; what++) {
            int w = what;
            Check.is(other[w], () -> x.skater(1, w), "skater(1, " + w + ")");
        }
        x.set(0, 300);
        Check.is(4425, () -> x.skater(0, 2), "the components with 300 percent");
        x.set(0, 101);
        Check.is(1490, () -> x.skater(0, 2), "the components with 101 percent");
        SkateSheet y = new SkateSheet();
        y.add();
        y.penalty(0, 9);
        int[] empty = {0, 0, 0, 900, -900, 0, 0, 0};
        for (int what = 0; what <= 7; what++) {
            int w = what;
            Check.is(empty[w], () -> y.skater(0, w), "skater(0, " + w + ") without elements");
        }
    }

    private static void order(SkateSheet x, String what, int... places) {
        for (int s = 0; s < places.length; s++) {
            int t = s;
            Check.is(places[s], () -> x.skater(t, 5), "the place of " + s + " with " + what);
            if (places[s] == 0) {
                Check.is(s, () -> x.about(4), "the first one with " + what);
            }
        }
    }

    private static void places() {
        order(Sheets.of("1T", "2T", "3T", "4T"), "rising totals", 3, 2, 1, 0);
        order(Sheets.of("4T", "3T", "2T", "1T"), "falling totals", 0, 1, 2, 3);
        order(Sheets.of("3T", "3T", "3T", "3T"), "equal totals", 0, 1, 2, 3);
        // 200 of each one; the technical scores are 200, 300, 300, 200
        SkateSheet x = Sheets.of("p1;1O", "p4", "p4", "p1;1O");
        x.set(4, 0);
        x.penalty(1, 1);
        x.fall(2, 0, true);
        order(x, "equal totals and other technical scores", 2, 0, 1, 3);
        SkateSheet y = Sheets.of("1T", "1T", "1T");
        y.penalty(0, 1);
        y.penalty(1, 1);
        order(y, "totals below 0", 1, 2, 0);
        // a total counts before a technical score
        SkateSheet z = Sheets.of("4A", "1T");
        z.penalty(0, 9);
        z.component(1, 0, Sheets.components(40, 40, 40, 40, 40));
        order(z, "a total against a technical score", 1, 0);
    }

    private static void abouts() {
        SkateSheet x = Sheets.of("3T;3T;p1", "s1;s1", "2T+2T");
        x.fall(0, 0, true);
        x.fall(2, 0, true);
        x.fall(0, 2, true);
        x.review(0, 1, true);
        x.review(1, 1, true);
        int[] due = {3, 2, 3, 6, 0, 2};
        for (int what = 0; what <= 5; what++) {
            int w = what;
            Check.is(due[w], () -> x.about(w), "about(" + w + ")");
        }
        x.fall(0, 0, false);
        x.review(1, 1, false);
        Check.is(2, () -> x.about(2), "about(2) behind a fall taken back");
        Check.is(1, () -> x.about(1), "about(1) behind a review taken back");
    }

    private static void wrongArguments() {
        SkateSheet x = Sheets.of("3T+2T;p1", "s1");
        int[] far = {-1, Integer.MIN_VALUE, Integer.MAX_VALUE, 12, 1000};
        for (int i : far) {
            Check.isArgument(() -> x.about(i), "about(" + i + ")");
            Check.isArgument(() -> x.setting(i), "setting(" + i + ")");
            Check.isIndex(() -> x.skater(i, 0), "skater(" + i + ", 0)");
            Check.isIndex(() -> x.skater(i, -1), "skater(" + i + ", -1)");
            Check.isArgument(() -> x.skater(0, i), "skater(0, " + i + ")");
            Check.isIndex(() -> x.element(i, 0, 0), "element(" + i + ", 0, 0)");
            Check.isIndex(() -> x.element(0, i, 0), "element(0, " + i + ", 0)");
            Check.isIndex(() -> x.element(0, i, -1), "element(0, " + i + ", -1)");
            Check.isArgument(() -> x.element(0, 0, i), "element(0, 0, " + i + ")");
            Check.isIndex(() -> x.part(i, 0, 0, 0), "part(" + i + ", 0, 0, 0)");
            Check.isIndex(() -> x.part(0, i, 0, 0), "part(0, " + i + ", 0, 0)");
            Check.isIndex(() -> x.part(0, 0, i, 0), "part(0, 0, " + i + ", 0)");
            Check.isIndex(() -> x.part(0, 0, i, -1), "part(0, 0, " + i + ", -1)");
            Check.isArgument(() -> x.part(0, 0, 0, i), "part(0, 0, 0, " + i + ")");
        }
        Check.isArgument(() -> x.about(6), "about(6)");
        Check.isArgument(() -> x.setting(5), "setting(5)");
        Check.isArgument(() -> x.skater(0, 8), "skater(0, 8)");
        Check.isIndex(() -> x.skater(2, 0), "skater(2, 0)");
        Check.isArgument(() -> x.element(0, 0, 9), "element(0, 0, 9)");
        Check.isIndex(() -> x.element(0, 2, 0), "element(0, 2, 0)");
        Check.isIndex(() -> x.element(1, 1, 0), "element(1, 1, 0)");
        Check.isIndex(() -> x.element(2, 0, 0), "element(2, 0, 0)");
        Check.isArgument(() -> x.part(0, 0, 0, 5), "part(0, 0, 0, 5)");
        Check.isIndex(() -> x.part(0, 0, 2, 0), "part(0, 0, 2, 0)");
        Check.isIndex(() -> x.part(0, 1, 1, 0), "part(0, 1, 1, 0)");
        Check.isIndex(() -> x.part(1, 0, 1, 0), "part(1, 0, 1, 0)");
        // a shorter program leaves nothing of the longer one
        Sheets.give(x, 0, "p1");
        Check.isIndex(() -> x.element(0, 1, 0), "an element of the program before");
        Check.isIndex(() -> x.part(0, 0, 1, 0), "a part of the program before");
        Check.is(-1, () -> x.part(0, 0, 0, 0), "the kind of the spin in place of a chain");
    }
}
