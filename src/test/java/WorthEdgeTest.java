import java.math.BigDecimal;
import java.math.RoundingMode;
import java.util.Arrays;

/** The boundaries of promises 5 to 9, and of what the document says under PROGRAMS, WORTH and MARKS. */
public final class WorthEdgeTest {
    private static final String TWELVE = "1T;1T;1T;1T;1T;1T;1T;1T;1T;1T;1T;1T";

    public static void main(String[] args) {
        counts();
        jumpElements();
        spins();
        steps();
        chains();
        thirdParts();
        repeats();
        repeatsLeftOut();
        onlyParts();
        easyJumps();
        firstReason();
        lesserCall();
        secondHalf();
        noBonus();
        halvesUp();
        everyMarks();
        componentMarks();
        componentPercents();
        everyGrade();
        greatestPart();
        sameAsNone();
        extremes();
        closePlaces();
        greatestCounts();
        Check.finish();
    }

    /** The reasons of all parts: a digit for each part, blanks between elements. */
    private static String reasons(SkateSheet x) {
        StringBuilder b = new StringBuilder();
        int elements = x.skater(0, 0);
        for (int e = 0; e < elements; e++) {
            b.append(e == 0 ? "" : " ");
            int parts = x.element(0, e, 1);
            for (int k = 0; k < parts; k++) {
                b.append(x.part(0, e, k, 4));
            }
        }
        return b.toString();
    }

    private static void reasons(String due, SkateSheet x, String what) {
        Check.same(due, reasons(x), "the reasons of " + what);
        long lesser = due.chars().filter(c -> c > '0').count();
        Check.is(lesser, () -> x.about(5), "about(5) of " + what);
    }

    /** "at most 12 elements, numbered from 0, at first of none"; "one to three jumps"; "with one part". */
    private static void counts() {
        SkateSheet x = Scenes.bare();
        Check.is(0, () -> x.skater(0, 0), "the elements of a new skater");
        Check.is(0, () -> x.about(3), "the elements of all without elements");
        Check.isIndex(() -> x.element(0, 0, 0), "element(0, 0, 0) of a new skater");
        Sheets.give(x, 0, TWELVE);
        Check.is(12, () -> x.skater(0, 0), "twelve elements");
        Check.is(0, () -> x.element(0, 11, 0), "the type of the last one");
        Check.isIndex(() -> x.element(0, 12, 0), "element(0, 12, 0)");
        Sheets.give(x, 0, "1T;1T+1S;1T+1S+1O;p0;s0");
        int[] parts = {1, 2, 3, 1, 1};
        for (int e = 0; e < parts.length; e++) {
            int at = e;
            Check.is(parts[e], () -> x.element(0, at, 1), "the parts of " + e);
            Check.is(e < 3 ? parts[e] - 1 : -1, () -> x.part(0, at, parts[at] - 1, 0), "the last kind of " + e);
            Check.isIndex(() -> x.part(0, at, parts[at], 0), "a part behind the last one of " + e);
        }
    }

    /** "more jump elements so far (this one counted) than setting 2 tells" */
    private static void jumpElements() {
        for (int most = 0; most <= 12; most++) {
            SkateSheet x = Sheets.of(TWELVE);
            x.set(2, most);
            StringBuilder due = new StringBuilder();
            for (int e = 0; e < 12; e++) {
                due.append(e == 0 ? "" : " ").append(e < most ? 0 : 5);
                int at = e;
                int worth = e < most ? 40 : 0;
                Check.is(worth, () -> x.part(0, at, 0, 3), "the worth of " + e + " of " + most);
                Check.is(e >= 6 && e < most ? 1 : 0, () -> x.element(0, at, 8), "the bonus of " + e + " of " + most);
            }
            reasons(due.toString(), x, "twelve jumps with setting 2 of " + most);
        }
        SkateSheet x = Sheets.of("p0;1T;s0;1T+1T;p0;1T;p0;1T");
        x.set(2, 2);
        reasons("0 0 0 00 0 5 0 5", x, "jumps with spins and steps between them");
    }

    /** "or more spins than setting 3 tells" */
    private static void spins() {
        for (int most = 0; most <= 5; most++) {
            SkateSheet x = Sheets.of("p0;p1;p2;p3;p4;p4;p4");
            x.set(3, most);
            StringBuilder due = new StringBuilder();
            for (int e = 0; e < 7; e++) {
                due.append(e == 0 ? "" : " ").append(e < most ? 0 : 5);
            }
            reasons(due.toString(), x, "seven spins with setting 3 of " + most);
            int[] worths = {0, 120, 270, 460, 700, 1000};
            Check.is(worths[most], () -> x.skater(0, 1), "the technical score of " + most + " spins");
        }
    }

    /** "or it is not the first one of steps" */
    private static void steps() {
        SkateSheet x = Sheets.of("1T;p1;s0;s4;1T;s4;p1");
        x.set(2, 12);
        x.set(3, 5);
        reasons("0 0 0 5 0 5 0", x, "three steps");
        Check.is(150, () -> x.element(0, 2, 2), "the base of the first steps");
        Check.is(0, () -> x.element(0, 3, 2), "the base of the second steps");
        Check.is(0, () -> x.element(0, 5, 2), "the base of the third steps");
        x.mark(0, 3, Sheets.marks(5));
        Check.is(0, () -> x.element(0, 3, 4), "the grade of the second steps");
        Check.is(15, () -> x.element(0, 3, 3), "the kernel of the second steps");
    }

    /** "a chain of several jumps, if there are more such chains so far (this one counted) than setting 1 tells" */
    private static void chains() {
        for (int most = 0; most <= 5; most++) {
            SkateSheet x = Sheets.of("1T+1T;1S;1T+1T;1T+1T;p0;1T+1T;1T+1T;1T+1T;1O");
            x.set(1, most);
            x.set(2, 12);
            StringBuilder due = new StringBuilder();
            int chain = 0;
            for (int e = 0; e < 9; e++) {
                boolean isChain = e != 1 && e != 4 && e != 8;
                due.append(e == 0 ? "0" : " 0").append(!isChain ? "" : chain < most ? "0" : "3");
                chain += isChain ? 1 : 0;
            }
            reasons(due.toString(), x, "six chains with setting 1 of " + most);
            Check.is(40, () -> x.part(0, 0, 0, 3), "the first part of the first chain with setting 1 of " + most);
            Check.is(most == 0 ? 0 : 40, () -> x.part(0, 0, 1, 3), "its second part with setting 1 of " + most);
        }
        SkateSheet x = Sheets.of("1T+1T;1T+1T;1T+1T");
        x.set(1, 1);
        x.set(2, 2);
        reasons("00 03 55", x, "chains that are too many by both");
    }

    /** "The third part of a chain, if an earlier chain (not too many by 5 or 3) has three parts, too" */
    private static void thirdParts() {
        for (int most = 0; most <= 5; most++) {
            SkateSheet x = Sheets.of("1T+1T;1S+1S+1S;1T+1T;1O+1O+1O;1Z+1Z+1Z;1F+1F+1F");
            x.set(1, most);
            String[] due = {"03 033 03 033 033 033", "00 033 03 033 033 033", "00 000 03 033 033 033",
                "00 000 00 033 033 033", "00 000 00 004 033 033", "00 000 00 004 004 033"};
            reasons(due[most], x, "chains of three with setting 1 of " + most);
        }
        SkateSheet x = Sheets.of("1T+1T+1T;1T+1T+1T;1T+1T;1T");
        Check.is(80, () -> x.element(0, 1, 2), "a chain without its third part");
        Check.is(0, () -> x.part(0, 1, 2, 3), "the third part itself");
    }

    /** Reasons 1 and 2: each order of up to four times the same jump, alone or in a chain. */
    private static void repeats() {
        for (String jump : new String[] {"3T", "4T", "3A", "4A", "3Fe", "4Z!"}) {
            for (int times = 1; times <= 4; times++) {
                for (int order = 0; order < 1 << times; order++) {
                    repeat(jump, times, order);
                }
            }
        }
    }

    private static void repeat(String jump, int times, int order) {
        StringBuilder text = new StringBuilder();
        StringBuilder due = new StringBuilder();
        for (int i = 0; i < times; i++) {
            boolean isChain = (order >> i & 1) == 1;
            int reason = i >= 2 ? 2 : i == 1 && (order & 3) == 0 ? 1 : 0;
            text.append(i == 0 ? "" : ";").append(!isChain ? jump : i % 2 == 0 ? jump + "+1O" : "1O+" + jump);
            due.append(i == 0 ? "" : " ").append(!isChain ? "" + reason : i % 2 == 0 ? reason + "0" : "0" + reason);
        }
        SkateSheet x = Sheets.of(text.toString());
        x.set(1, 5);
        reasons(due.toString(), x, text.toString());
    }

    /** "parts for which 5, 3 or 4 applies are left out, those for which 2 or 1 applies count; so too for 1" */
    private static void repeatsLeftOut() {
        SkateSheet x = Sheets.of("1T+3T;3T;3T;3T");
        x.set(1, 0);
        reasons("03 0 1 2", x, "a jump left out by 3");
        reasons("000 004 0 1 2", Sheets.of("1S+1S+1S;1S+1S+3T;3T;3T;3T"), "a jump left out by 4");
        reasons("000 004 00 0 2", Sheets.of("1S+1S+1S;1S+1S+3T;3T+1S;3T;3T"), "a jump left out by 4 before a chain");
        SkateSheet y = Sheets.of("3T;3T;3T");
        y.set(2, 1);
        reasons("0 5 5", y, "jumps too many");
        reasons("0 1 2 2 2", Sheets.of("3T;3T;3T;3T;3T"), "jumps for which 2 or 1 applies");
        reasons("0 0 1 1 2 2", Sheets.of("3T;4T;3T;4T;3T;4T"), "jumps with other rotations");
        reasons("0 0 0 1 1 1", Sheets.of("3T;3S;3O;3O;3S;3T"), "jumps of other kinds");
        reasons("0 1 2 2", Sheets.of("3Z<;3Z!;3Ze;3Z"), "jumps with other calls");
        reasons("00 2", Sheets.of("3T+3T;3T"), "two in one chain");
        reasons("002 2", Sheets.of("3T+3T+3T;3T"), "three in one chain");
    }

    /** "both are the only parts of their elements": a part that is worth nothing is a part, too. */
    private static void onlyParts() {
        reasons("00 0 2", Sheets.of("3T+1S!;3T;3T"), "a chain with a part worth nothing by its call, first");
        reasons("0 00 2", Sheets.of("3T;3T+1S!;3T"), "a chain with a part worth nothing by its call, second");
        SkateSheet x = Sheets.of("3T+1S;3T;3T");
        x.set(1, 0);
        reasons("03 0 2", x, "a chain with a part worth nothing by 3, first");
        SkateSheet y = Sheets.of("3T;3T+1S;3T");
        y.set(1, 0);
        reasons("0 03 2", y, "a chain with a part worth nothing by 3, second");
        reasons("0 1 2", Sheets.of("3T!;3T<;3T"), "jumps with calls, each the only part");
    }

    /** "A jump with 3 or 4 rotations" */
    private static void easyJumps() {
        for (char kind : "TSOFZA".toCharArray()) {
            for (int turns = 1; turns <= 4; turns++) {
                String jump = "" + turns + kind;
                String text = jump + ";" + jump + ";" + jump + ";" + jump + "+" + jump;
                reasons(turns <= 2 ? "0 0 0 00" : "0 1 2 22", Sheets.of(text), text);
            }
        }
        reasons("0 0 0", Sheets.of("2A;2A!;2A<"), "jumps with 2 rotations");
    }

    /** "for the first of these reasons that applies": 5, 3, 4, 2, 1. */
    private static void firstReason() {
        SkateSheet x = Sheets.of("3T+3T+3T;3T+3T+3T");
        reasons("002 224", x, "4 before 2");
        x.set(1, 1);
        reasons("002 233", x, "3 before 4 and 2");
        x.set(2, 1);
        reasons("002 555", x, "5 before all others");
        x.set(2, 0);
        reasons("555 555", x, "5 for each part");
        SkateSheet y = Sheets.of("1T+1T+1T;3T;3T+1T+1T");
        reasons("000 0 004", y, "4 of the third part alone");
        y.set(1, 1);
        reasons("000 0 033", y, "3 of the parts behind the first one alone");
        SkateSheet z = Sheets.of("3T;3T;3T");
        reasons("0 1 2", z, "2 before 1");
        z.set(2, 1);
        reasons("0 5 5", z, "5 before 1");
    }

    /** "With the call 1 or 3 it is 80 percent of that, with the call 2 that of a rotation less (0 with 1)" */
    private static void lesserCall() {
        SkateSheet x = Sheets.of("1T!;2T!;3A!;4A!;1A<;4F<;1Fe;4Ze");
        x.set(2, 12);
        int[] due = {0, 40, 330, 800, 88, 880, 40, 920};
        for (int e = 0; e < due.length; e++) {
            int at = e;
            Check.is(due[e], () -> x.part(0, at, 0, 3), "the worth of the call of " + e);
            Check.is(0, () -> x.part(0, at, 0, 4), "the reason of the call of " + e);
        }
        Check.is(0, () -> x.about(5), "the parts that are worth less by a call alone");
    }

    /** "the second half (twice its number is at least the number of elements)" */
    private static void secondHalf() {
        for (int elements = 1; elements <= 12; elements++) {
            SkateSheet x = Sheets.of("2A;2A;2A;2A;2A;2A;2A;2A;2A;2A;2A;2A".substring(0, 3 * elements - 1));
            x.set(2, 12);
            int[] firsts = {1, 1, 2, 2, 3, 3, 4, 4, 5, 5, 6, 6};
            for (int e = 0; e < elements; e++) {
                int at = e;
                boolean has = e >= firsts[elements - 1];
                Check.is(has ? 1 : 0, () -> x.element(0, at, 8), "the bonus of " + e + " of " + elements);
                Check.is(has ? 363 : 330, () -> x.element(0, at, 2), "the base of " + e + " of " + elements);
                Check.is(330, () -> x.part(0, at, 0, 3), "the part of " + e + " of " + elements);
            }
        }
    }

    /** "for a jump element .. that is not too many by 5"; "perhaps of 0 percent". */
    private static void noBonus() {
        SkateSheet x = Sheets.of("p1;s1;p1;s1;2A;2A+3T+1T;2A");
        x.set(2, 2);
        int[] with = {0, 0, 0, 0, 1, 1, 0};
        for (int bonus : new int[] {10, 0, 30}) {
            x.set(4, bonus);
            for (int e = 0; e < with.length; e++) {
                int at = e;
                Check.is(with[e], () -> x.element(0, at, 8), "the bonus of " + e + " with setting 4 of " + bonus);
            }
        }
        Check.is(429, () -> x.element(0, 4, 2), "the base with 30 percent");
        Check.is(1027, () -> x.element(0, 5, 2), "the base of a chain with 30 percent");
        x.set(4, 0);
        Check.is(330, () -> x.element(0, 4, 2), "the base with 0 percent");
        Check.is(150, () -> x.element(0, 2, 2), "the base of a spin of the first half");
        // nothing by the reasons 2, or by a call: there is a bonus, of nothing
        SkateSheet y = Sheets.of("3T;3T;3T;1T!");
        Check.is(1, () -> y.element(0, 2, 8), "the bonus of a jump with reason 2");
        Check.is(0, () -> y.element(0, 2, 2), "the base of a jump with reason 2");
        Check.is(1, () -> y.element(0, 3, 8), "the bonus of a jump worth nothing");
        Check.is(0, () -> y.element(0, 3, 2), "the base of a jump worth nothing");
    }

    /** "rounded to the nearest whole number, a half up": just below, at and above a half. */
    private static void halvesUp() {
        bonus(50, 1, "1O", 51);
        bonus(50, 3, "1O", 52);
        bonus(130, 5, "2T", 137);
        bonus(110, 5, "1A", 116);
        bonus(130, 15, "2T", 150);
        bonus(40, 1, "1T", 40);
        bonus(40, 4, "1T", 42);
        bonus(60, 4, "1Z", 62);
        bonus(60, 6, "1Z", 64);
        bonus(40, 30, "1T", 52);
        bonus(1250, 30, "4A", 1625);
        bonus(90, 5, "1T+1O", 95);
        bonus(0, 30, "1T!", 0);
    }

    private static void bonus(int worth, int percents, String jump, int due) {
        SkateSheet x = Sheets.of("s0;" + jump);
        x.set(4, 0);
        Check.is(worth, () -> x.element(0, 1, 2), "the base of " + jump);
        x.set(4, percents);
        Check.is(due, () -> x.element(0, 1, 2), "the base of " + jump + " with " + percents + " percent");
        Check.is(due, () -> x.element(0, 1, 5), "the score of " + jump + " with " + percents + " percent");
    }

    /** "The kernel is the sum of the three that are left without one greatest and one least": all marks there are. */
    private static void everyMarks() {
        SkateSheet x = Sheets.of("1T");
        int calls = 0;
        for (int marks = 0; marks <= 161050; marks++) {
            if (calls == 500) {
                x = Sheets.of("1T");
                calls = 0;
            }
            calls++;
            SkateSheet own = x;
            int given = marks;
            Check.is(middle(marks, 11) - 15, () -> own.mark(0, 0, given), "mark(0, 0, " + marks + ")");
        }
    }

    private static int middle(int marks, int base) {
        int[] sorted = new int[5];
        int rest = marks;
        for (int i = 0; i < 5; i++) {
            sorted[i] = rest % base;
            rest = rest / base;
        }
        Arrays.sort(sorted);
        return sorted[1] + sorted[2] + sorted[3];
    }

    /** "their sum times 25, divided by 3, rounded to the nearest whole number" */
    private static void componentMarks() {
        int[] ends = {0, 1, 2, 39, 40};
        for (int i = 0; i < 3125; i++) {
            component(Sheets.components(ends[i / 625], ends[i / 125 % 5], ends[i / 25 % 5], ends[i / 5 % 5],
                    ends[i % 5]));
        }
        for (int sum = 0; sum <= 120; sum++) {
            component(Sheets.components(0, sum / 3, (sum + 1) / 3, (sum + 2) / 3, 40));
        }
        for (int marks = 0; marks <= 115856200; marks += 57901) {
            component(marks);
        }
        component(115856199);
        component(115856200);
    }

    private static void component(int marks) {
        SkateSheet x = Scenes.bare();
        int due = rounded(middle(marks, 41) * 25L, 3);
        for (int k = 0; k <= 2; k++) {
            int own = k;
            Check.is(due, () -> x.component(0, own, marks), "component(0, " + k + ", " + marks + ")");
        }
        Check.is(3 * due, () -> x.skater(0, 2), "three components of " + marks);
    }

    private static int rounded(long over, long under) {
        return BigDecimal.valueOf(over).divide(BigDecimal.valueOf(under), 0, RoundingMode.HALF_UP).intValueExact();
    }

    /** "setting 0 percent of these three, together", 50 to 300 */
    private static void componentPercents() {
        SkateSheet x = Scenes.bare();
        // 8 and 17 and 25: together 50, not each one by itself
        x.component(0, 0, Sheets.components(0, 0, 0, 1, 1));
        x.component(0, 1, Sheets.components(0, 0, 1, 1, 1));
        x.component(0, 2, Sheets.components(1, 1, 1, 1, 1));
        for (int percents = 50; percents <= 300; percents++) {
            x.set(0, percents);
            Check.is((percents + 1) / 2, () -> x.skater(0, 2), "50 with " + percents + " percent");
        }
        SkateSheet y = Scenes.bare();
        y.component(0, 1, Sheets.components(0, 1, 1, 1, 1));
        y.set(0, 50);
        Check.is(13, () -> y.skater(0, 2), "25 with 50 percent: 12 and a half");
        y.component(0, 0, 115856200);
        y.component(0, 1, 115856200);
        y.component(0, 2, 115856200);
        y.set(0, 300);
        Check.is(9000, () -> y.skater(0, 2), "the greatest components there are");
        Check.is(9000, () -> y.skater(0, 4), "the greatest total without elements");
    }

    /** "divided by 30, rounded to the nearest whole number, a half away from 0": every kernel. */
    private static void everyGrade() {
        String[] texts = {"1T", "1O", "1A", "2S", "2F", "3T<", "3S<", "4A", "p0", "s4", "1T!", "3S", "4Ze"};
        for (String text : texts) {
            SkateSheet x = Sheets.of(text);
            int top = x.part(0, 0, 0, 3);
            for (int kernel = -15; kernel <= 15; kernel++) {
                int due = rounded((long) kernel * top, 30);
                x.mark(0, 0, kernel(kernel));
                Check.is(due, () -> x.element(0, 0, 4), "the grade of " + text + " with the kernel " + kernel);
                Check.is(top + due, () -> x.element(0, 0, 5), "the score of " + text + " with " + kernel);
                Check.is(top, () -> x.element(0, 0, 2), "the base of " + text + " with " + kernel);
            }
        }
        // 235 and 241 with odd kernels of threes end in a half
        SkateSheet x = Sheets.of("3T;3T<");
        int[] kernels = {-15, -9, -3, 3, 9, 15};
        int[] due = {-118, -71, -24, 24, 71, 118};
        for (int i = 0; i < kernels.length; i++) {
            int own = i;
            x.mark(0, 1, kernel(kernels[i]));
            Check.is(due[own], () -> x.element(0, 1, 4), "the grade of 235 with the kernel " + kernels[own]);
        }
    }

    /** Marks with such a kernel. */
    private static int kernel(int kernel) {
        return Sheets.marks(5, Math.floorDiv(kernel, 3), Math.floorDiv(kernel + 1, 3), Math.floorDiv(kernel + 2, 3),
                -5);
    }

    /** "what the part of the element that is worth most is worth (with its call and its reason, without bonus)" */
    private static void greatestPart() {
        top(42, "2T+3T+2T", 0, "a second part");
        top(42, "2T+2T+3T", 0, "a third part");
        top(42, "3T!+3T+1T", 0, "a part that a call makes less");
        top(34, "3T<+2T", 0, "a part with a call");
        top(13, "3T;3T;3T+2T", 2, "a part with reason 2 before it");
        top(13, "1T+1T+1T;2T+1T+3A", 1, "a part with reason 4 behind it");
        top(29, "3T;3T", 1, "a part with reason 1 and a bonus");
        top(42, "s0;3T", 1, "a part with a bonus");
        top(0, "1T!+1S!", 0, "parts that are worth nothing");
        top(0, "s0;s4", 1, "steps that are too many");
    }

    private static void top(int due, String text, int e, String what) {
        SkateSheet x = Sheets.of(text);
        x.mark(0, e, Sheets.marks(1));
        Check.is(due, () -> x.element(0, e, 4), "the grade of " + what + ": " + text);
        x.mark(0, e, Sheets.marks(-1));
        Check.is(-due, () -> x.element(0, e, 4), "the grade below 0 of " + what + ": " + text);
    }

    /** "1 and 4 may be the same as NONE", "3 to 5 may be the same as NONE" */
    private static void sameAsNone() {
        SkateSheet x = Sheets.of("1T;1O");
        x.mark(0, 0, kernel(-1));
        Check.is(-1, () -> x.element(0, 0, 3), "a kernel of -1");
        Check.is(-1, () -> x.element(0, 0, 4), "a grade of -1");
        Check.is(39, () -> x.element(0, 0, 5), "the score with a grade of -1");
        // 39 and 55 and, of components, 5: 99; a fall takes 100 off
        x.component(0, 0, Sheets.components(0, 0, 0, 1, 1));
        x.set(0, 62);
        x.fall(0, 1, true);
        Check.is(94, () -> x.skater(0, 1), "the technical score");
        Check.is(5, () -> x.skater(0, 2), "the components");
        Check.is(-1, () -> x.skater(0, 4), "a total of -1");
        Check.is(0, () -> x.skater(0, 5), "the place with a total of -1");
        Check.is(0, () -> x.about(4), "the first one with a total of -1");
        Check.is(0, () -> x.behind(0), "behind(0) with a total of -1");
        Check.is(-1, () -> x.ifCalled(0, 0, 0, 0), "ifCalled with a total of -1");
        Check.is(85, () -> x.needs(0, 0), "needs with a total of -1");
    }

    /** The least and the greatest numbers there are. */
    private static void extremes() {
        SkateSheet least = Sheets.of(TWELVE);
        least.set(2, 0);
        least.penalty(0, 9);
        for (int e = 0; e < 12; e++) {
            least.fall(0, e, true);
            least.mark(0, e, 0);
        }
        int[] due = {12, 0, 0, 2100, -2100, 0, 12, 0};
        for (int what = 0; what <= 7; what++) {
            int own = what;
            Check.is(due[own], () -> least.skater(0, own), "skater(0, " + own + ") of the least total");
        }
        Check.is(12, () -> least.about(5), "the parts that are worth less of the least total");
        SkateSheet most = Sheets.of("4A;4A;4Z;4Z;4F;4F;4O;4O;4S;4S;4T;4T");
        most.set(2, 12);
        most.set(4, 30);
        most.set(0, 300);
        int technical = 0;
        int[] worths = {1250, 875, 1150, 805, 1100, 770, 1050, 735, 970, 679, 950, 665};
        for (int e = 0; e < 12; e++) {
            most.mark(0, e, 161050);
            technical += rounded(worths[e] * (e < 6 ? 100L : 130L), 100) + rounded(worths[e] * 15L, 30);
        }
        for (int k = 0; k < 3; k++) {
            most.component(0, k, 115856200);
        }
        int sum = technical;
        Check.is(sum, () -> most.skater(0, 1), "a great technical score");
        Check.is(sum + 9000, () -> most.skater(0, 4), "a great total");
        Check.is(6, () -> most.about(5), "the parts with reason 1");
    }

    /** "the greatest total is first, of several the greatest technical score, of several the lowest skater" */
    private static void closePlaces() {
        order("1T;p4", new int[] {0, 0, 0, 0}, 0, 1, 2, 3);
        order("1T;p4", new int[] {0, 0, 0, 1}, 1, 2, 3, 0);
        order("1T;p4", new int[] {0, 1, 0, 1}, 2, 0, 3, 1);
        order("1T;p4", new int[] {-1, 0, 0, -1}, 2, 0, 1, 3);
        order("1T;p4", new int[] {-1, 1, 0, -2}, 2, 0, 1, 3);
        // 330 and 330, one of them with 25 of components
        SkateSheet x = Sheets.of("2A", "2A", "3T");
        x.component(0, 0, Sheets.components(1, 1, 1, 1, 1));
        x.component(1, 0, Sheets.components(4, 4, 4, 4, 4));
        x.set(0, 90);
        // 353 and 420 and 420: the technical score decides between the second and the third one
        Check.is(420, () -> x.skater(1, 4), "the total of one with components");
        Check.is(420, () -> x.skater(2, 4), "the total of one without");
        Check.is(0, () -> x.skater(2, 5), "the place of the greater technical score");
        Check.is(1, () -> x.skater(1, 5), "the place of the lower technical score");
        Check.is(2, () -> x.skater(0, 5), "the place of the least total");
        Check.is(2, () -> x.about(4), "the first one of equal totals");
    }

    /** Four skaters who differ by the kernel of 1T alone: a step more or less is a hundredth or two. */
    private static void order(String text, int[] kernels, int... places) {
        SkateSheet x = Sheets.of(text, text, text, text);
        for (int s = 0; s < 4; s++) {
            x.mark(s, 0, kernel(kernels[s]));
        }
        for (int s = 0; s < 4; s++) {
            int own = s;
            Check.is(places[s], () -> x.skater(own, 5), "the place of " + s + " with " + Arrays.toString(kernels));
            if (places[s] == 0) {
                Check.is(s, () -> x.about(4), "the first one with " + Arrays.toString(kernels));
            }
        }
    }

    /** about() and skater() where everything is as often as it can be. */
    private static void greatestCounts() {
        SkateSheet x = Sheets.of(TWELVE, TWELVE, TWELVE, TWELVE);
        for (int s = 0; s < 4; s++) {
            for (int e = 0; e < 12; e++) {
                x.fall(s, e, true);
                x.review(s, e, true);
            }
        }
        int[] due = {4, 48, 48, 48, 0, 20};
        for (int what = 0; what <= 5; what++) {
            int own = what;
            Check.is(due[own], () -> x.about(own), "about(" + own + ") of all that there can be");
        }
        Check.is(12, () -> x.skater(3, 6), "the falls of the last skater");
        Check.is(12, () -> x.skater(3, 7), "the reviews of the last skater");
        Check.is(1200, () -> x.skater(3, 3), "what is taken off the last skater");
    }
}
