/** The boundaries of promises 25 to 28. */
public final class ScriptEdgeTest {
    public static void main(String[] args) {
        everyGroup();
        groupsThatFail();
        numberOfDigits();
        firstThatFails();
        commandsSeen();
        totalsAtTheEdge();
        reviewsAtTheEdge();
        scriptsChangeNothing();
        everyNumberOfTurns();
        everyNumberOfSkaters();
        overflow();
        simulationsChangeNothing();
        slotsApart();
        slotKeepsItsState();
        slotsOfAllSizes();
        restoreForgets();
        Check.finish();
    }

    /** Three skaters, with twelve, with two and without elements, and all reasons but 3. */
    private static SkateSheet sheet() {
        SkateSheet x = Sheets.of("3Z;3Z;3Z;1T+1T+1T;1S+1S+1S;2A;p1;s1;p4;s2;1O;1F", "3Fe+2T;p0", "1T");
        x.undo();
        x.set(2, 7);
        x.review(0, 9, true);
        x.review(0, 11, true);
        x.review(1, 1, true);
        x.fall(0, 10, true);
        x.penalty(1, 3);
        x.component(1, 0, Sheets.components(8, 8, 8, 8, 8));
        return x;
    }

    /** All groups of five digits that there are: each one succeeds just where the document says. */
    private static void everyGroup() {
        SkateSheet x = sheet();
        int asked = 0;
        for (int group = 0; group < 100000; group++) {
            if (asked == 80) {
                x = sheet();
                asked = 0;
            }
            asked++;
            SkateSheet own = x;
            int script = group;
            boolean due = succeeds(x, group / 10000, group / 1000 % 10, group % 1000);
            Check.is(due ? -1 : 0, () -> own.runScript(1, script), "runScript(1, " + group + ")");
        }
    }

    private static boolean succeeds(SkateSheet x, int verb, int s, int rest) {
        int e = rest / 100;
        int k = rest / 10 % 10;
        int last = rest % 10;
        int two = rest / 10;
        return switch (verb) {
            case 1 -> last <= 1 && does(x, () -> x.fall(s, two, last == 1));
            case 2 -> does(x, () -> x.call(s, e, k, last));
            case 3 -> last <= 1 && does(x, () -> x.review(s, two, last == 1));
            case 4 -> two == 0 && does(x, () -> x.penalty(s, last));
            case 5 -> does(x, () -> x.set(s, rest));
            case 6 -> two == 0 && answers(() -> x.skater(s, 5) == last ? 1 : 0);
            case 7 -> answers(() -> x.skater(s, 4) >= 10 * rest ? 1 : 0);
            case 8 -> answers(() -> x.part(s, e, k, 4) == last ? 1 : 0);
            case 9 -> s == 0 && last == 0 && x.about(1) <= two;
            default -> false;
        };
    }

    private static boolean does(SkateSheet x, Check.Call action) {
        boolean isDone = !Check.told(action).endsWith("Exception");
        if (isDone) {
            x.undo();
        }
        return isDone;
    }

    private static boolean answers(Check.Call question) {
        return Check.told(question).equals("1");
    }

    /** "and so does any other group (also one with another digit where a 0 is written, or a b above 1)" */
    private static void groupsThatFail() {
        int[] groups = {0, 1, 9999, 10002, 10009, 10120, 11021, 12000, 13000, 14000, 20004, 20010, 20060, 21100,
            20303, 24000, 30002, 30121, 32001, 40010, 40100, 43000, 49009, 50049, 50301, 51006, 52013, 53006, 54031,
            55000, 59000, 60010, 60100, 62000, 69000, 73000, 79999, 80010, 80330, 81200, 82000, 90001, 90020, 91000,
            99990, 99999};
        for (int group : groups) {
            SkateSheet x = sheet();
            Check.is(0, () -> x.runScript(1, group), "runScript(1, " + group + ")");
            Check.is(1, () -> x.runScript(2, 6000000000L + group), "runScript(2, " + (6000000000L + group) + ")");
        }
    }

    /** "a number of at most 5 * n digits (0 or more)", "with zeros before it, if it has fewer digits" */
    private static void numberOfDigits() {
        SkateSheet x = sheet();
        long[] most = {99999, 9999999999L, 999999999999999L};
        for (int n = 1; n <= 3; n++) {
            int own = n;
            Check.is(0, () -> x.runScript(own, 0), "runScript(" + n + ", 0)");
            Check.is(0, () -> x.runScript(own, most[own - 1]), "runScript(" + n + ", all 9)");
            Check.isArgument(() -> x.runScript(own, most[own - 1] + 1), "runScript(" + n + ", one digit more)");
            Check.isArgument(() -> x.runScript(own, -1), "runScript(" + n + ", -1)");
            Check.isArgument(() -> x.runScript(own, Long.MAX_VALUE), "runScript(" + n + ", greatest)");
            Check.isArgument(() -> x.runScript(own, Long.MIN_VALUE), "runScript(" + n + ", least)");
            Check.is(n == 1 ? -1 : 0, () -> x.runScript(own, 90990), "runScript(" + n + ", 90990)");
        }
        // fewer digits by one: a 0 is before them
        Check.is(0, () -> x.runScript(1, 9990), "runScript(1, 9990)");
        Check.is(0, () -> x.runScript(2, 199090990), "runScript(2, 9 digits)");
        Check.is(0, () -> x.runScript(3, 19909099090990L), "runScript(3, 14 digits)");
        Check.is(-1, () -> x.runScript(2, 9099090990L), "runScript(2, 10 digits)");
        Check.is(-1, () -> x.runScript(3, 909909099090990L), "runScript(3, 15 digits)");
        for (int n : new int[] {0, 4, -1, Integer.MIN_VALUE, Integer.MAX_VALUE}) {
            Check.isArgument(() -> x.runScript(n, 90990), "runScript(" + n + ", 90990)");
        }
    }

    /** "Returns the index, from 0, of the first command that fails; NONE if all succeed." */
    private static void firstThatFails() {
        SkateSheet x = sheet();
        long good = 90990;
        long bad = 99999;
        for (int fails = 0; fails < 8; fails++) {
            long script = 0;
            int due = -1;
            for (int i = 0; i < 3; i++) {
                boolean isBad = (fails >> i & 1) == 1;
                script = script * 100000 + (isBad ? bad : good);
                due = due == -1 && isBad ? i : due;
            }
            int first = due;
            long told = script;
            Check.is(first, () -> x.runScript(3, told), "runScript(3, " + told + ")");
        }
        Check.is(-1, () -> x.runScript(2, good * 100000 + good), "runScript(2, both succeed)");
        Check.is(0, () -> x.runScript(2, bad * 100000 + good), "runScript(2, the first one fails)");
        Check.is(1, () -> x.runScript(2, good * 100000 + bad), "runScript(2, the second one fails)");
        Check.is(-1, () -> x.runScript(1, good), "runScript(1, it succeeds)");
        Check.is(0, () -> x.runScript(1, bad), "runScript(1, it fails)");
    }

    /** What a command of 1 to 5 does, the next ones see: the same as the methods, one behind the other. */
    private static void commandsSeen() {
        seen(10000, 10100, 10101, 10110, 11001, 11011);
        seen(20001, 20002, 20003, 20301, 21003, 21000, 21011);
        seen(30001, 30090, 30110, 31000, 31010);
        seen(40000, 40009, 41000, 41009);
        seen(50050, 50300, 51000, 52000, 52001, 53000, 54000, 54030);
    }

    private static void seen(int... groups) {
        for (int group : groups) {
            SkateSheet x = sheet();
            int rest = group % 1000;
            int s = group / 1000 % 10;
            SkateSheet changed = sheet();
            if (!act(changed, group / 10000, s, rest)) {
                Check.report("the command " + group + " of the test fails");
            }
            for (int own = 0; own <= 1; own++) {
                int total = changed.skater(own, 4);
                long script = group * 100000L + 70000 + 1000 * own;
                int ten = total / 10;
                if (total >= 0) {
                    Check.is(-1, () -> x.runScript(2, script + ten), "runScript(2, " + (script + ten) + ")");
                    Check.is(1, () -> x.runScript(2, script + ten + 1), "runScript(2, " + (script + ten + 1) + ")");
                }
                long placed = group * 100000L + 60000 + 1000 * own + changed.skater(own, 5);
                Check.is(-1, () -> x.runScript(2, placed), "runScript(2, " + placed + ")");
            }
            long reviews = group * 100000L + 90000 + 10 * changed.about(1);
            Check.is(-1, () -> x.runScript(2, reviews), "runScript(2, " + reviews + ")");
            Check.is(1, () -> x.runScript(2, reviews - 10), "runScript(2, " + (reviews - 10) + ")");
            long reason = group * 100000L + 80420 + changed.part(0, 4, 2, 4);
            Check.is(-1, () -> x.runScript(2, reason), "runScript(2, " + reason + ")");
        }
    }

    private static boolean act(SkateSheet x, int verb, int s, int rest) {
        int last = rest % 10;
        String told = Check.told(() -> switch (verb) {
            case 1 -> x.fall(s, rest / 10, last == 1);
            case 2 -> x.call(s, rest / 100, rest / 10 % 10, last);
            case 3 -> x.review(s, rest / 10, last == 1);
            case 4 -> x.penalty(s, last);
            default -> x.set(s, rest);
        });
        return !told.endsWith("Exception");
    }

    /** "succeeds if the total of s is at least 10 * ttt": equal, a hundredth more or less, below 0, far above. */
    private static void totalsAtTheEdge() {
        SkateSheet x = Sheets.of("1T", "1T", "4A", "1T!");
        x.mark(0, 0, Sheets.marks(0, 0, 0, 1, 1));
        x.mark(1, 0, Sheets.marks(0, 0, 0, -1, -1));
        x.penalty(2, 1);
        x.set(0, 300);
        for (int k = 0; k < 3; k++) {
            x.component(2, k, 115856200);
        }
        Check.is(41, () -> x.skater(0, 4), "the total just above 40");
        Check.is(39, () -> x.skater(1, 4), "the total just below 40");
        Check.is(-1, () -> x.runScript(1, 70004), "41 is at least 40");
        Check.is(0, () -> x.runScript(1, 70005), "41 is not at least 50");
        Check.is(0, () -> x.runScript(1, 71004), "39 is not at least 40");
        Check.is(-1, () -> x.runScript(1, 71003), "39 is at least 30");
        Check.is(-1, () -> x.runScript(2, 5005071003L), "39 is at least 30 with another setting");
        Check.is(-1, () -> x.runScript(1, 72999), "10150 is at least 9990");
        Check.is(-1, () -> x.runScript(1, 73000), "0 is at least 0");
        Check.is(0, () -> x.runScript(1, 73001), "0 is not at least 10");
        Check.is(1, () -> x.runScript(2, 4300173000L), "-100 is not at least 0");
        SkateSheet y = Sheets.of("1T");
        Check.is(-1, () -> y.runScript(1, 70004), "40 is at least 40");
        Check.is(0, () -> y.runScript(1, 70005), "40 is not at least 50");
    }

    /** "9 0 n n 0: succeeds if at most nn elements are under review": none, one, all 48. */
    private static void reviewsAtTheEdge() {
        String twelve = "1T;1T;1T;1T;1T;1T;1T;1T;1T;1T;1T;1T";
        SkateSheet x = Sheets.of(twelve, twelve, twelve, twelve);
        Check.is(-1, () -> x.runScript(1, 90000), "none is at most 0");
        for (int i = 1; i <= 48; i++) {
            x.review((i - 1) / 12, (i - 1) % 12, true);
            int most = i;
            Check.is(-1, () -> x.runScript(1, 90000 + 10 * most), "at most as many as there are: " + i);
            Check.is(0, () -> x.runScript(1, 90000 + 10 * most - 10), "at most one fewer than there are: " + i);
        }
        Check.is(-1, () -> x.runScript(1, 90990), "48 are at most 99");
        Check.is(-1, () -> x.runScript(2, 3311090470L), "the last one of 48 is taken back");
        Check.is(1, () -> x.runScript(2, 3311190470L), "the last one of 48 is not taken back");
    }

    /** "Runs a script on a copy of the state", whether its commands succeed or fail. */
    private static void scriptsChangeNothing() {
        Twins.Maker[] makers = {Scenes::some, Scenes::full, Scenes::restored};
        long[] scripts = {100001000020001L, 300014000954000L, 520015300051000L, 100019999910011L, 400099999999999L,
            999990000000000L, 600007000080000L, 500505100052000L};
        for (Twins.Maker maker : makers) {
            for (long script : scripts) {
                Twins.unchanged(maker, x -> x.runScript(3, script), "runScript(3, " + script + ")");
            }
            Twins.unchanged(maker, x -> x.runScript(1, 10001), "runScript(1, 10001)");
        }
    }

    /** "m: number of turns, 1 to 60": each number, against the sheet's own actions. */
    private static void everyNumberOfTurns() {
        for (int m = 1; m <= 60; m++) {
            Turns.simulation(sheet(), sheet(), 12345678912345L * m, m);
        }
        SkateSheet x = sheet();
        for (int m : new int[] {0, 61, -1, Integer.MIN_VALUE, Integer.MAX_VALUE}) {
            Check.isArgument(() -> x.simulate(1, m), "simulate(1, " + m + ")");
        }
    }

    /** Without skaters everything is left out; without elements components and points are not. */
    private static void everyNumberOfSkaters() {
        for (long seed = -3; seed <= 3; seed++) {
            long own = seed;
            Check.is(0, () -> Scenes.empty().simulate(own, 60), "simulate(" + seed + ", 60) without skaters");
            SkateSheet x = new SkateSheet();
            SkateSheet y = new SkateSheet();
            for (int skaters = 1; skaters <= 4; skaters++) {
                x.add();
                y.add();
                y.save(0);
                Turns.simulation(x, y, seed, 60);
                y.restore(0);
            }
        }
    }

    /** "any long", "with long overflow" */
    private static void overflow() {
        long[] seeds = {0, 1, -1, Long.MAX_VALUE, Long.MIN_VALUE, Long.MAX_VALUE - 1, Long.MIN_VALUE + 1,
            1L << 33, (1L << 33) - 1, -1442695040888963407L, 6364136223846793005L, 4294967296L, -4294967296L};
        for (long seed : seeds) {
            for (int m : new int[] {1, 2, 30, 60}) {
                Turns.simulation(sheet(), sheet(), seed, m);
            }
        }
    }

    private static void simulationsChangeNothing() {
        Twins.Maker[] makers = {Scenes::empty, Scenes::bare, Scenes::some, Scenes::full, Scenes::restored};
        for (Twins.Maker maker : makers) {
            for (long seed : new long[] {0, 1, -1, Long.MIN_VALUE}) {
                Twins.unchanged(maker, x -> x.simulate(seed, 60), "simulate(" + seed + ", 60)");
            }
            Twins.unchanged(maker, x -> x.simulate(2, 1), "simulate(2, 1)");
        }
    }

    /** "slot: 0 or 1": each one keeps a state of its own. */
    private static void slotsApart() {
        SkateSheet x = new SkateSheet();
        Check.isState(() -> x.restore(0), "restore(0) of nothing");
        Check.isState(() -> x.restore(1), "restore(1) of nothing");
        Check.is(0, () -> x.save(1), "save(1) without skaters");
        Check.isState(() -> x.restore(0), "restore(0) with something in 1 alone");
        Check.is(0, () -> x.restore(1), "restore(1) without skaters");
        x.add();
        x.set(0, 300);
        Check.is(1, () -> x.save(0), "save(0) with a skater");
        Check.is(0, () -> x.restore(1), "restore(1) behind save(0)");
        Check.is(100, () -> x.setting(0), "the setting of slot 1");
        Check.is(1, () -> x.restore(0), "restore(0) behind restore(1)");
        Check.is(300, () -> x.setting(0), "the setting of slot 0");
        for (int slot : new int[] {-1, 2, Integer.MIN_VALUE, Integer.MAX_VALUE}) {
            Check.isIndex(() -> x.save(slot), "save(" + slot + ")");
            Check.isIndex(() -> x.restore(slot), "restore(" + slot + ")");
        }
    }

    /** "The save slot keeps it": whatever becomes of the state, and of the other slot. */
    private static void slotKeepsItsState() {
        SkateSheet x = Scenes.some();
        String saved = Sheets.all(x);
        x.save(0);
        spoil(x);
        Check.is(2, () -> x.restore(0), "restore(0)");
        Check.same(saved, Sheets.all(x), "what restore(0) brings back");
        spoil(x);
        x.save(1);
        Check.is(2, () -> x.restore(0), "restore(0) again");
        Check.same(saved, Sheets.all(x), "what restore(0) brings back again");
        Check.is(3, () -> x.restore(1), "restore(1)");
        Check.is(222, () -> x.setting(0), "the setting of slot 1");
        // a later save takes the place of the earlier one
        x.restore(1);
        Check.is(3, () -> x.save(0), "save(0) of the state of slot 1");
        x.set(0, 50);
        Check.is(3, () -> x.restore(0), "restore(0) of the later state");
        Check.is(222, () -> x.setting(0), "the setting of the later state");
    }

    /** Every action there is. */
    private static void spoil(SkateSheet x) {
        x.add();
        x.program(1);
        x.mark(0, 0, 0);
        x.component(0, 1, 0);
        x.call(0, 0, 0, 3);
        x.review(0, 0, true);
        x.fall(0, 1, false);
        x.penalty(1, 9);
        x.set(0, 222);
    }

    /** "Returns the skaters", of 0 to 4, with a greater state and with a smaller one in the place. */
    private static void slotsOfAllSizes() {
        for (int saved = 0; saved <= 4; saved++) {
            for (int then = 0; then <= 4; then++) {
                SkateSheet x = skaters(saved);
                int due = saved;
                String before = Sheets.all(x);
                Check.is(due, () -> x.save(1), "save(1) of " + saved);
                becomes(x, saved, then);
                Check.is(due, () -> x.restore(1), "restore(1) of " + saved + " behind " + then);
                Check.same(before, Sheets.all(x), "what restore(1) of " + saved + " brings back behind " + then);
                if (saved < 4) {
                    Check.is(due, x::add, "add() behind restore(1) of " + saved);
                    Check.is(0, () -> x.skater(due, 4), "the total of a new skater behind restore(1)");
                    Check.is(0, () -> x.skater(due, 0), "the elements of a new skater behind restore(1)");
                }
            }
        }
    }

    /** A sheet of so many skaters gets others, or loses some: their first actions are behind 2 of each one. */
    private static void becomes(SkateSheet x, int count, int then) {
        for (int s = count; s < then; s++) {
            Sheets.give(x, x.add(), "4A;4A");
            x.penalty(s, 9);
        }
        for (int i = 3 * count; i > then && then < count; i--) {
            x.undo();
        }
        Check.is(then, () -> x.about(0), "the skaters before restore(1)");
    }

    private static SkateSheet skaters(int count) {
        SkateSheet x = new SkateSheet();
        Sheets.write(x, "3F;p1");
        for (int s = 0; s < count; s++) {
            x.add();
        }
        for (int s = 0; s < count; s++) {
            x.program(s);
            x.penalty(s, s + 1);
        }
        return x;
    }

    /** "forgets all remembered states", of one and of 14; "restore is no action". */
    private static void restoreForgets() {
        for (int actions : new int[] {0, 1, 13, 14, 15, 30}) {
            SkateSheet x = Scenes.bare();
            x.save(0);
            for (int i = 0; i < actions; i++) {
                x.penalty(0, i % 9 + 1);
            }
            Check.is(1, () -> x.restore(0), "restore(0) behind " + actions);
            Check.isState(x::undo, "undo() behind restore(0) behind " + actions);
            Check.is(0, () -> x.skater(0, 3), "the points behind restore(0) behind " + actions);
            x.penalty(0, 5);
            x.penalty(0, 6);
            Check.is(1, x::undo, "undo() of the second action behind restore(0)");
            Check.is(500, () -> x.skater(0, 3), "the points behind that undo()");
            Check.is(0, x::undo, "undo() of the first action behind restore(0)");
            Check.is(0, () -> x.skater(0, 3), "the points behind both of undo()");
            Check.isState(x::undo, "undo() of what was before restore(0)");
        }
    }
}
