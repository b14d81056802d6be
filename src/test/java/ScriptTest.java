/** Promises 25 to 28: scripts, simulations, save slots. */
public final class ScriptTest {
    public static void main(String[] args) {
        wrongScripts();
        actsInScripts();
        questionsInScripts();
        order();
        simulations();
        slots();
        Check.finish();
    }

    /** Two skaters: the first one has 1573, the second one 1250. */
    private static SkateSheet sheet() {
        return Sheets.of("3F+2T;p1;s1;3F", "4A");
    }

    private static void wrongScripts() {
        SkateSheet x = sheet();
        Check.isArgument(() -> x.runScript(0, 0), "runScript(0, 0)");
        Check.isArgument(() -> x.runScript(4, 0), "runScript(4, 0)");
        Check.isArgument(() -> x.runScript(-1, 0), "runScript(-1, 0)");
        Check.isArgument(() -> x.runScript(Integer.MAX_VALUE, 0), "runScript(greatest, 0)");
        Check.isArgument(() -> x.runScript(1, -1), "runScript(1, -1)");
        Check.isArgument(() -> x.runScript(3, Long.MIN_VALUE), "runScript(3, least)");
        Check.isArgument(() -> x.runScript(1, 100000), "runScript(1, 6 digits)");
        Check.isArgument(() -> x.runScript(2, 10000000000L), "runScript(2, 11 digits)");
        Check.isArgument(() -> x.runScript(3, 1000000000000000L), "runScript(3, 16 digits)");
        Check.isArgument(() -> x.runScript(3, Long.MAX_VALUE), "runScript(3, greatest)");
        Check.is(0, () -> x.runScript(1, 99999), "runScript(1, 99999)");
        Check.is(0, () -> x.runScript(3, 999999999999999L), "runScript(3, 15 times 9)");
        Check.is(0, () -> x.runScript(1, 0), "runScript(1, 0)");
        Check.is(0, () -> x.runScript(3, 90990), "zeros before a number of fewer digits");
    }

    private static void succeeds(long group) {
        Check.is(-1, () -> sheet().runScript(1, group), "runScript(1, " + group + ")");
    }

    private static void fails(long group) {
        Check.is(0, () -> sheet().runScript(1, group), "runScript(1, " + group + ")");
    }

    private static void actsInScripts() {
        succeeds(10000);
        succeeds(10001);
        succeeds(10031);
        succeeds(11001);
        fails(10002);
        fails(10009);
        fails(10041);
        fails(10101);
        fails(11011);
        fails(12001);
        fails(19001);
        succeeds(20000);
        succeeds(20003);
        succeeds(20012);
        succeeds(20302);
        fails(20004);
        fails(20009);
        fails(20013);
        fails(20020);
        fails(20100);
        fails(20200);
        fails(20400);
        fails(22000);
        succeeds(30000);
        succeeds(31001);
        fails(30002);
        fails(30041);
        fails(30101);
        fails(32001);
        succeeds(40000);
        succeeds(40009);
        succeeds(41005);
        fails(40010);
        fails(40100);
        fails(42000);
        succeeds(50050);
        succeeds(50300);
        fails(50049);
        fails(50301);
        succeeds(51005);
        fails(51006);
        succeeds(52012);
        fails(52013);
        succeeds(53000);
        fails(53006);
        succeeds(54030);
        fails(54031);
        fails(55000);
        fails(59001);
    }

    private static void questionsInScripts() {
        fails(0);
        fails(1);
        fails(9999);
        succeeds(60000);
        succeeds(61001);
        fails(60001);
        fails(61000);
        fails(60100);
        fails(60010);
        fails(62002);
        // 530 and 130, 150, 180, 583: 1573, and 1250
        succeeds(70000);
        succeeds(70157);
        fails(70158);
        succeeds(71125);
        fails(71126);
        fails(72000);
        succeeds(80000);
        succeeds(80010);
        fails(80001);
        fails(80020);
        fails(80400);
        fails(82000);
        succeeds(80300);
        fails(80310);
        succeeds(90000);
        succeeds(90990);
        fails(90001);
        fails(91000);
        fails(99990);
    }

    private static void run(int due, int n, long script) {
        SkateSheet x = sheet();
        String before = Sheets.all(x);
        Check.is(due, () -> x.runScript(n, script), "runScript(" + n + ", " + script + ")");
        if (!before.equals(Sheets.all(x))) {
            Check.report("runScript(" + n + ", " + script + ") changes something");
        }
    }

    /** What one command does, the next ones see. */
    private static void order() {
        // the totals of 1: 1250 less a fall, or points, or with a call: 1150, 950, 1000, 800
        run(-1, 2, 1100171115L);
        run(1, 2, 1100171116L);
        run(-1, 2, 4100371095L);
        run(1, 2, 4100371096L);
        run(-1, 2, 2100171100L);
        run(1, 2, 2100171101L);
        run(-1, 2, 2100271080L);
        run(1, 2, 2100271081L);
        run(-1, 3, 110011100071125L);
        run(-1, 2, 3000190010L);
        run(1, 2, 3000190000L);
        run(-1, 3, 300013000090000L);
        run(-1, 2, 3000090000L);
        run(2, 3, 300013100190010L);
        run(-1, 3, 300013100190020L);
        run(-1, 2, 5200080005L);
        run(-1, 2, 5100080013L);
        run(1, 2, 5100080003L);
        // elements and reviews of two digits: 830 without a fall
        twelve(-1, 1, 10111);
        twelve(0, 1, 10121);
        twelve(-1, 2, 1011170073L);
        twelve(1, 2, 1011170074L);
        twelve(-1, 3, 301013011190120L);
        twelve(2, 3, 301013011190110L);
        // 1573 less 900 is 673
        run(-1, 2, 4000960001L);
        run(-1, 3, 410096000061001L);
        // the first one that fails is told
        run(0, 3, 999996000061001L);
        run(1, 3, 600009999961001L);
        run(2, 3, 600006100199999L);
        run(-1, 3, 600006100190000L);
        run(0, 2, 99999L);
        run(1, 2, 6000000000L);
    }

    /** A sheet with twelve elements, of which ten are under review: 450 and 180 and 200. */
    private static void twelve(int due, int n, long script) {
        SkateSheet x = Sheets.of("p1;p1;p1;p1;p1;p1;p1;p1;p1;p1;s1;s1");
        x.component(0, 0, Sheets.components(8, 8, 8, 8, 8));
        for (int e = 0; e < 10; e++) {
            x.review(0, e, true);
        }
        Check.is(due, () -> x.runScript(n, script), "runScript(" + n + ", " + script + ") with twelve elements");
    }

    private static void simulations() {
        SkateSheet x = sheet();
        Check.isArgument(() -> x.simulate(1, 0), "simulate(1, 0)");
        Check.isArgument(() -> x.simulate(1, 61), "simulate(1, 61)");
        Check.isArgument(() -> x.simulate(1, -1), "simulate(1, -1)");
        Check.isArgument(() -> x.simulate(1, Integer.MIN_VALUE), "simulate(1, least)");
        Check.is(0, () -> new SkateSheet().simulate(7, 60), "simulate(7, 60) without skaters");
        long[] seeds = {0, 1, -1, 42, Long.MAX_VALUE, Long.MIN_VALUE, 6364136223846793005L};
        for (long seed : seeds) {
            for (int m = 1; m <= 60; m++) {
                simulation(seed, m);
            }
        }
        for (int seed = 0; seed < 200; seed++) {
            simulation(seed * 7919L, 60);
        }
    }

    private static void simulation(long seed, int m) {
        Turns.simulation(three(), three(), seed, m);
    }

    private static SkateSheet three() {
        return Sheets.of("3F+2T;p1;s1;3F;3Ze+3Z;4T;2A+1T+3S;p4;3S;3S;s1;4T", "4A;p2;3Z;3F",
                "1T+1O<;4T!;3A;p4;p4;p0;p0");
    }

    private static void slots() {
        SkateSheet x = new SkateSheet();
        int[] far = {-1, 2, Integer.MIN_VALUE, Integer.MAX_VALUE};
        for (int slot : far) {
            Check.isIndex(() -> x.save(slot), "save(" + slot + ")");
            Check.isIndex(() -> x.restore(slot), "restore(" + slot + ")");
        }
        Check.is(0, () -> x.save(0), "save(0) without skaters");
        Check.isState(() -> x.restore(1), "restore(1) of nothing");
        x.add();
        Sheets.give(x, 0, "3F+2T;p1;s1;3A<+2T+1S!");
        x.mark(0, 0, 99999);
        x.mark(0, 3, 111111);
        x.component(0, 1, 99999999);
        x.call(0, 0, 0, 3);
        x.fall(0, 1, true);
        x.review(0, 2, true);
        x.penalty(0, 3);
        x.set(1, 1);
        x.add();
        String full = Sheets.all(x);
        Check.is(2, () -> x.save(1), "save(1)");
        Check.is(11, () -> { x.add(); return x.undo(); }, "save is no action");
        Sheets.write(x, "4T");
        Check.is(0, () -> x.restore(0), "restore(0)");
        Check.is(0, () -> x.about(0), "the skaters of slot 0");
        Check.is(3, () -> x.setting(1), "the setting of slot 0");
        Check.isState(x::undo, "undo() behind restore()");
        Check.is(-1, x::errorPosition, "the text behind restore()");
        Check.is(2, () -> x.restore(1), "restore(1)");
        if (!full.equals(Sheets.all(x))) {
            Check.report("restore(1) does not bring the saved state back");
        }
        // the slot keeps its state, whatever is done with the present one
        x.mark(0, 0, 1);
        x.call(0, 0, 0, 0);
        x.program(1);
        x.set(0, 111);
        Check.is(2, () -> x.restore(1), "restore(1) again");
        if (!full.equals(Sheets.all(x))) {
            Check.report("restore(1) does not bring the saved state back again");
        }
        Check.isState(x::undo, "undo() behind restore() again");
        x.set(0, 200);
        Check.is(0, x::undo, "undo() of the first action behind restore()");
        Check.isState(x::undo, "restore is no action");
        // a later save takes the place of the earlier one; undo does not reach the slots
        x.add();
        Check.is(3, () -> x.save(0), "save(0) again");
        x.undo();
        Check.is(3, () -> x.restore(0), "restore(0) of the later state");
        Check.is(2, () -> x.restore(1), "restore(1) at the end");
    }
}
