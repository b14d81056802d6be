/** The boundaries of promises 10 to 19, and of what the document says under ACTIONS AND UNDO. */
public final class ActionEdgeTest {
    private static final String[] NAMES = {"add", "program", "mark", "component", "call", "review", "fall", "penalty",
        "set"};

    public static void main(String[] args) {
        fourSkaters();
        addedAnew();
        programsReplaced();
        programAndText();
        marksAtTheEnds();
        componentsApart();
        everyCall();
        everyReview();
        everyFall();
        everyPenalty();
        everySetting();
        nothingDifferent();
        eachTakenBack();
        fourteenStates();
        undoneAndDoneAgain();
        notRemembered();
        textAndSlotsStay();
        lastCall();
        Check.finish();
    }

    /** "There are at most 4 skaters, numbered from 0." */
    private static void fourSkaters() {
        SkateSheet x = new SkateSheet();
        for (int s = 0; s < 4; s++) {
            int due = s;
            Check.is(due, () -> x.about(0), "the skaters before add() " + s);
            Check.isIndex(() -> x.skater(due, 0), "skater(" + s + ", 0) before add()");
            Check.is(due, x::add, "add() " + s);
            Check.same("0 0 0 0 0 " + s + " 0 0 ", numbers(x, s), "the numbers of a new skater " + s);
        }
        Check.isState(x::add, "add() with 4 skaters");
        Check.isState(x::add, "add() with 4 skaters again");
        Check.is(4, () -> x.about(0), "the skaters behind it");
        Check.isIndex(() -> x.skater(4, 0), "skater(4, 0)");
        Check.is(3, x::undo, "undo() of the fourth one");
        Check.isIndex(() -> x.skater(3, 0), "skater(3, 0) behind undo()");
        Check.is(3, x::add, "add() behind undo()");
    }

    private static String numbers(SkateSheet x, int s) {
        StringBuilder b = new StringBuilder();
        for (int what = 0; what <= 7; what++) {
            b.append(x.skater(s, what)).append(' ');
        }
        return b.toString();
    }

    /** "without elements, marks and penalty points", also where another one had that number before. */
    private static void addedAnew() {
        SkateSheet x = new SkateSheet();
        x.save(0);
        x.add();
        fill(x);
        while (x.undo() > 0) {
            Check.is(1, () -> x.about(0), "a skater who is there yet");
        }
        Check.is(0, x::add, "add() behind undo() of all");
        clean(x, "behind undo()");
        fill(x);
        x.restore(0);
        Check.is(0, x::add, "add() behind restore()");
        clean(x, "behind restore()");
        fill(x);
        x.save(1);
        x.restore(0);
        x.restore(1);
        Check.is(1, x::add, "add() behind two of restore()");
        Check.same("0 0 0 0 0 1 0 0 ", numbers(x, 1), "a second skater behind two of restore()");
    }

    private static void fill(SkateSheet x) {
        Sheets.give(x, 0, "3Fe+2T;p1");
        x.mark(0, 0, Sheets.marks(5));
        x.fall(0, 1, true);
        x.review(0, 0, true);
        for (int k = 0; k < 3; k++) {
            x.component(0, k, 115856200);
        }
        x.penalty(0, 9);
    }

    private static void clean(SkateSheet x, String what) {
        Check.same("0 0 0 0 0 0 0 0 ", numbers(x, 0), "a new skater " + what);
        Check.isIndex(() -> x.element(0, 0, 0), "an element of a new skater " + what);
        Sheets.give(x, 0, "3F+2T;p1");
        for (int e = 0; e < 2; e++) {
            int at = e;
            Check.is(0, () -> x.element(0, at, 3) + x.element(0, at, 6) + x.element(0, at, 7),
                    "kernel, fall and review of the element " + e + " " + what);
        }
        Check.is(0, () -> x.part(0, 0, 0, 2), "the call " + what);
        Check.is(0, () -> x.penalty(0, 1), "the penalty points " + what);
    }

    /** "all marks of its elements are 0, there are no falls and reviews. Components and penalty points stay." */
    private static void programsReplaced() {
        String[] texts = {"3F", "3F+2T+1T;p1;s4", "p0;p0;p0;p0;p0;p0;p0;p0;p0;p0;p0;p0", "s1", "1A;1A;1A;1A"};
        for (String before : texts) {
            for (String behind : texts) {
                replaced(before, behind);
            }
        }
    }

    private static void replaced(String before, String behind) {
        SkateSheet x = Sheets.of(before, "1T");
        int elements = behind.split(";").length;
        for (int e = 0; e < before.split(";").length; e++) {
            x.mark(0, e, 161050);
            x.fall(0, e, true);
            x.review(0, e, true);
        }
        x.component(0, 0, Sheets.components(4, 4, 4, 4, 4));
        x.penalty(0, 3);
        x.fall(1, 0, true);
        Sheets.write(x, behind);
        String what = " of " + behind + " in place of " + before;
        Check.is(elements, () -> x.program(0), "program(0)" + what);
        Check.is(elements, () -> x.skater(0, 0), "the elements" + what);
        for (int e = 0; e < elements; e++) {
            int at = e;
            Check.is(0, () -> x.element(0, at, 3), "a kernel" + what);
            Check.is(0, () -> x.element(0, at, 6), "a fall" + what);
            Check.is(0, () -> x.element(0, at, 7), "a review" + what);
        }
        Check.isIndex(() -> x.element(0, elements, 0), "one element more" + what);
        Check.is(0, () -> x.skater(0, 6), "the falls" + what);
        Check.is(0, () -> x.about(1), "the reviews" + what);
        Check.is(100, () -> x.skater(0, 2), "the components" + what);
        Check.is(300, () -> x.skater(0, 3), "what is taken off" + what);
        Check.is(1, () -> x.skater(1, 6), "the falls of another skater" + what);
        // the same as a program that was the first one
        SkateSheet y = Sheets.of(behind);
        Check.is(y.skater(0, 1), () -> x.skater(0, 1), "the technical score" + what);
    }

    /** "Keeps the text": it can be given again, and a program does not go with it. */
    private static void programAndText() {
        SkateSheet x = Scenes.bare();
        for (int i = 0; i < 3; i++) {
            x.add();
        }
        Sheets.write(x, "3Fe;p1");
        for (int s = 0; s < 4; s++) {
            int own = s;
            Check.is(2, () -> x.program(own), "program(" + s + ") of the same text");
            Check.is(-1, x::errorPosition, "errorPosition() behind program(" + s + ")");
        }
        x.call(0, 0, 0, 0);
        Check.is(3, () -> x.part(1, 0, 0, 2), "the call of another program of the same text");
        x.append(';');
        Check.is(2, () -> x.skater(0, 0), "the elements behind append()");
        Check.isState(() -> x.program(0), "program(0) of a text that was a program");
        x.append('s');
        x.append('0');
        Check.is(3, () -> x.program(3), "program(3) of a longer text");
        Check.is(2, () -> x.skater(2, 0), "the elements of another program");
        Check.is(9, x::clearText, "clearText() behind program()");
        Check.is(3, () -> x.skater(3, 0), "the elements behind clearText()");
        Check.isState(() -> x.program(3), "program(3) of an emptied text");
    }

    /** "marks 0 to 161050", of the first and the last element. */
    private static void marksAtTheEnds() {
        SkateSheet x = Sheets.of("1T;1T;1T;1T;1T;1T;1T;1T;1T;1T;1T;p4");
        for (int e : new int[] {0, 11}) {
            Check.is(-15, () -> x.mark(0, e, 0), "mark(0, " + e + ", 0)");
            Check.is(-15, () -> x.mark(0, e, 1), "mark(0, " + e + ", 1): one greatest left out");
            Check.is(15, () -> x.mark(0, e, 161050), "mark(0, " + e + ", 161050)");
            Check.is(15, () -> x.mark(0, e, 161049), "mark(0, " + e + ", 161049): one least left out");
            Check.is(15, () -> x.element(0, e, 3), "the kernel of " + e);
        }
        Check.is(0, () -> x.element(0, 1, 3), "the kernel of the second element");
        Check.is(0, () -> x.element(0, 10, 3), "the kernel of the last but one");
        Check.is(150, () -> x.element(0, 11, 4), "the grade of the last one");
    }

    /** "component, 0 to 2": each one is kept by itself. */
    private static void componentsApart() {
        SkateSheet x = Scenes.bare();
        Check.is(1000, () -> x.component(0, 0, 115856200), "component(0, 0, 115856200)");
        Check.is(1000, () -> x.component(0, 2, 115856199), "component(0, 2, 115856199): one least left out");
        Check.is(0, () -> x.component(0, 1, 1), "component(0, 1, 1): one greatest left out");
        Check.is(2000, () -> x.skater(0, 2), "two components of three");
        Check.is(0, () -> x.component(0, 0, 0), "component(0, 0, 0)");
        Check.is(1000, () -> x.skater(0, 2), "one component of three");
        Check.is(8, () -> x.component(0, 1, Sheets.components(0, 0, 0, 1, 1)), "8 and a third");
        Check.is(17, () -> x.component(0, 1, Sheets.components(0, 0, 1, 1, 1)), "16 and two thirds");
        Check.is(1017, () -> x.skater(0, 2), "two components of three again");
    }

    /** "call 0 to 3", of each kind, with the previous one as the answer, on the last part of the last element. */
    private static void everyCall() {
        for (char kind : "TSOFZA".toCharArray()) {
            boolean hasEdge = kind == 'F' || kind == 'Z';
            for (int before = 0; before <= (hasEdge ? 3 : 2); before++) {
                SkateSheet x = Sheets.of("1T;1T;1T;1T;p0;p0;p0;s0;s0;s0;s0;1T+1T+3" + kind);
                int last = before;
                x.call(0, 11, 2, before);
                for (int call = 0; call <= 2; call++) {
                    int own = call;
                    Check.is(last, () -> x.call(0, 11, 2, own), "call " + call + " of " + kind + " behind " + last);
                    Check.is(own, () -> x.call(0, 11, 2, last), "call " + last + " of " + kind + " behind " + call);
                }
                if (hasEdge) {
                    Check.is(last, () -> x.call(0, 11, 2, 3), "call 3 of " + kind + " behind " + last);
                } else {
                    Check.isState(() -> x.call(0, 11, 2, 3), "call 3 of " + kind + " behind " + last);
                    Check.is(last, () -> x.part(0, 11, 2, 2), "the call of " + kind + " behind a refused one");
                }
            }
        }
        SkateSheet x = Sheets.of("3T<+3S!;3Fe");
        Check.is(1, () -> x.call(0, 0, 0, 0), "the call that the text wrote");
        Check.is(2, () -> x.call(0, 0, 1, 1), "the call of the second part that the text wrote");
        Check.is(3, () -> x.call(0, 1, 0, 1), "the wrong edge that the text wrote");
    }

    /** "Returns the elements under review then, of all skaters." */
    private static void everyReview() {
        String twelve = "p0;p0;p0;p0;p0;p0;p0;p0;p0;p0;p0;p0";
        SkateSheet x = Sheets.of(twelve, twelve);
        for (int i = 0; i < 24; i++) {
            int s = i / 12;
            int e = i % 12;
            int due = i + 1;
            Check.is(due, () -> x.review(s, e, true), "review(" + s + ", " + e + ", true)");
            Check.is(due, () -> x.review(s, e, true), "review(" + s + ", " + e + ", true) again");
            Check.is(1, () -> x.element(s, e, 7), "the element " + e + " under review");
        }
        for (int i = 0; i < 24; i++) {
            int s = i / 12;
            int e = i % 12;
            int due = 23 - i;
            Check.is(due, () -> x.review(s, e, false), "review(" + s + ", " + e + ", false)");
            Check.is(due, () -> x.review(s, e, false), "review(" + s + ", " + e + ", false) again");
        }
    }

    /** "(one in an element at most)"; "Returns the falls of the skater then." */
    private static void everyFall() {
        String twelve = "p0;p0;p0;p0;p0;p0;p0;p0;p0;p0;p0;p0";
        SkateSheet x = Sheets.of("s0", twelve);
        x.fall(0, 0, true);
        for (int e = 0; e < 12; e++) {
            int at = e;
            int due = e + 1;
            Check.is(due, () -> x.fall(1, at, true), "fall(1, " + e + ", true)");
            Check.is(due, () -> x.fall(1, at, true), "fall(1, " + e + ", true) again");
            Check.is(100 * due, () -> x.skater(1, 3), "what the falls take off");
            Check.is(1, () -> x.element(1, at, 6), "the fall of " + e);
            Check.is(due + 1, () -> x.about(2), "the falls of all");
        }
        for (int e = 0; e < 12; e++) {
            int at = e;
            int due = 11 - e;
            Check.is(due, () -> x.fall(1, at, false), "fall(1, " + e + ", false)");
            Check.is(due, () -> x.fall(1, at, false), "fall(1, " + e + ", false) again");
        }
        Check.is(0, () -> x.fall(0, 0, false), "the only fall of a skater taken back");
    }

    /** "points 0 to 9", "in place of those that there were", "Returns the previous ones." */
    private static void everyPenalty() {
        SkateSheet x = Sheets.of("s0", "s0");
        int previous = 0;
        for (int points : new int[] {9, 0, 1, 8, 9, 9, 5, 0}) {
            int due = previous;
            Check.is(due, () -> x.penalty(1, points), "penalty(1, " + points + ")");
            Check.is(100 * points, () -> x.skater(1, 3), "what " + points + " take off");
            Check.is(150 - 100 * points, () -> x.skater(1, 4), "the total with " + points);
            previous = points;
        }
        Check.is(0, () -> x.penalty(0, 0), "the points of another skater");
    }

    /** Each value of each setting that there may be. */
    private static void everySetting() {
        int[] first = {100, 3, 7, 3, 10};
        int[] least = {50, 0, 0, 0, 0};
        int[] greatest = {300, 5, 12, 5, 30};
        for (int what = 0; what <= 4; what++) {
            int own = what;
            SkateSheet x = new SkateSheet();
            int previous = first[what];
            for (int v = least[what]; v <= greatest[what]; v++) {
                int due = previous;
                int to = v;
                Check.is(due, () -> x.set(own, to), "set(" + what + ", " + v + ")");
                previous = v;
            }
            Check.isArgument(() -> x.set(own, least[own] - 1), "set(" + what + ", " + (least[what] - 1) + ")");
            Check.isArgument(() -> x.set(own, greatest[own] + 1), "set(" + what + ", " + (greatest[what] + 1) + ")");
            for (int other = 0; other <= 4; other++) {
                int at = other;
                Check.is(at == own ? greatest[at] : first[at], () -> x.setting(at), "setting(" + at + ") behind it");
            }
        }
    }

    private static int act(SkateSheet x, int action) {
        return switch (action) {
            case 0 -> x.add();
            case 1 -> x.program(0);
            case 2 -> x.mark(0, 0, 161050);
            case 3 -> x.component(0, 2, 115856200);
            case 4 -> x.call(0, 0, 0, 3);
            case 5 -> x.review(0, 0, true);
            case 6 -> x.fall(0, 0, true);
            case 7 -> x.penalty(0, 9);
            default -> x.set(2, 0);
        };
    }

    /** "Each call .. that does not throw an exception is an action, also if nothing becomes different". */
    private static void nothingDifferent() {
        for (int action = 1; action < NAMES.length; action++) {
            SkateSheet x = Sheets.of("3Z;p0");
            act(x, action);
            String before = Sheets.all(x);
            act(x, action);
            Check.same(before, Sheets.all(x), "the same " + NAMES[action] + " again");
            Check.is(3, x::undo, "undo() of the same " + NAMES[action] + " again");
            Check.same(before, Sheets.all(x), "what undo() of the same " + NAMES[action] + " leaves");
            Check.is(2, x::undo, "undo() of the first " + NAMES[action]);
        }
        SkateSheet x = Sheets.of("3Z;p0");
        x.mark(0, 0, 80525);
        x.component(0, 0, 0);
        x.call(0, 0, 0, 0);
        x.review(0, 1, false);
        x.fall(0, 1, false);
        x.penalty(0, 0);
        x.set(0, 100);
        Check.same(Sheets.all(Sheets.of("3Z;p0")), Sheets.all(x), "actions that give what there is");
        Check.is(8, x::undo, "undo() of nine actions");
    }

    /** "Takes back the last action": each of the nine, and nothing but it. */
    private static void eachTakenBack() {
        for (int action = 0; action < NAMES.length; action++) {
            SkateSheet x = Sheets.of("3Z+1T;p0", "1A");
            x.mark(0, 0, Sheets.marks(2));
            Sheets.write(x, "p1;p2;s3");
            String before = Sheets.all(x);
            act(x, action);
            if (before.equals(Sheets.all(x))) {
                Check.report(NAMES[action] + " changes nothing that is told");
            }
            Check.is(5, x::undo, "undo() of " + NAMES[action]);
            Check.same(before, Sheets.all(x), "what is told behind undo() of " + NAMES[action]);
        }
    }

    /** "At most 14 states are remembered; when one more is remembered, the oldest one is forgotten." */
    private static void fourteenStates() {
        for (int actions = 0; actions <= 60; actions++) {
            SkateSheet x = new SkateSheet();
            for (int i = 1; i <= actions; i++) {
                x.set(0, 100 + i);
            }
            int remembered = Math.min(actions, 14);
            for (int i = 1; i <= remembered; i++) {
                int left = remembered - i;
                int due = 100 + actions - i;
                Check.is(left, x::undo, "undo() " + i + " behind " + actions + " actions");
                Check.is(due, () -> x.setting(0), "the setting behind undo() " + i + " of " + actions);
            }
            Check.isState(x::undo, "undo() of more than is remembered of " + actions);
            Check.is(100 + actions - remembered, () -> x.setting(0), "the setting that stays of " + actions);
        }
    }

    /** Undo and actions in turn: the ring of states goes round with some of it free. */
    private static void undoneAndDoneAgain() {
        for (int back = 1; back <= 14; back++) {
            SkateSheet x = new SkateSheet();
            int[] settings = new int[200];
            settings[0] = 100;
            int done = 0;
            int remembered = 0;
            for (int round = 0; round < 4; round++) {
                for (int i = 0; i < 10 + round; i++) {
                    done++;
                    settings[done] = 50 + (37 * done + 11 * round) % 250;
                    x.set(0, settings[done]);
                    remembered = Math.min(14, remembered + 1);
                }
                for (int i = 0; i < back && remembered > 0; i++) {
                    done--;
                    remembered--;
                    int left = remembered;
                    int due = settings[done];
                    Check.is(left, x::undo, "undo() in the round " + round + " of " + back);
                    Check.is(due, () -> x.setting(0), "the setting in the round " + round + " of " + back);
                }
            }
        }
    }

    /** "undo is none", "restore is no action"; questions, scripts, simulations and save are none either. */
    private static void notRemembered() {
        Twins.Maker[] makers = {Scenes::some, Scenes::full, Scenes::restored};
        for (Twins.Maker maker : makers) {
            Twins.unchanged(maker, SkateSheet::errorPosition, "errorPosition()");
            Twins.unchanged(maker, x -> x.about(4), "about(4)");
            Twins.unchanged(maker, x -> x.about(5), "about(5)");
            Twins.unchanged(maker, x -> x.skater(0, 5), "skater(0, 5)");
            Twins.unchanged(maker, x -> x.element(0, 0, 5), "element(0, 0, 5)");
            Twins.unchanged(maker, x -> x.part(0, 0, 0, 3), "part(0, 0, 0, 3)");
            Twins.unchanged(maker, x -> x.setting(0), "setting(0)");
        }
        SkateSheet x = Sheets.of("1T");
        x.undo();
        Check.is(0, x::undo, "undo() behind undo()");
        Check.isState(x::undo, "undo() is no action");
        x.save(0);
        x.add();
        x.restore(0);
        Check.isState(x::undo, "undo() behind restore()");
        x.add();
        x.save(1);
        Check.is(0, x::undo, "undo() of add() behind save()");
        Check.isState(x::undo, "undo() of save()");
    }

    /** "the state, which consists of everything but the text and the save slots" */
    private static void textAndSlotsStay() {
        SkateSheet x = Scenes.bare();
        Sheets.write(x, "3T");
        x.program(0);
        Sheets.write(x, "p1;p2");
        x.save(0);
        x.penalty(0, 5);
        x.save(1);
        x.undo();
        x.undo();
        Check.is(0, () -> x.skater(0, 0), "the elements behind undo()");
        Check.is(-1, x::errorPosition, "the text behind undo()");
        Check.is(1, () -> x.restore(1), "restore(1) of what undo() took back");
        Check.is(500, () -> x.skater(0, 3), "the points of slot 1");
        Check.is(1, () -> x.skater(0, 0), "the elements of slot 1");
        Check.is(1, () -> x.restore(0), "restore(0)");
        Check.is(0, () -> x.skater(0, 3), "the points of slot 0");
        Check.is(2, () -> x.program(0), "program(0) of the text behind restore()");
        Check.is(5, x::clearText, "the length of the text at the end");
    }

    /** "An object is used for at most 512 calls": the last one is answered like the first one. */
    private static void lastCall() {
        SkateSheet x = new SkateSheet();
        x.add();
        for (int i = 2; i <= 497; i++) {
            x.penalty(0, i % 10);
        }
        for (int i = 1; i <= 14; i++) {
            int left = 14 - i;
            Check.is(left, x::undo, "undo() " + i + " near the last call");
        }
        // 497 actions, and the last 14 of them taken back: 483 gave 3 points
        Check.is(300, () -> x.skater(0, 3), "the call 512");
    }
}
