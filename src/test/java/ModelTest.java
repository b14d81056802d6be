import java.util.Arrays;
import java.util.Random;

/** Random runs of 512 calls on the sheet and on the model, with the same seeds each time. */
public final class ModelTest {
    private static final int RUNS = 600;
    private static final int CALLS = 512;

    private final Random random;
    private final SkateSheet x = new SkateSheet();
    private final Model m = new Model();
    private final int run;
    private int done = 0;

    private ModelTest(int run) {
        this.run = run;
        random = new Random(run);
    }

    public static void main(String[] args) {
        int runs = args.length == 0 ? RUNS : Integer.parseInt(args[0]);
        for (int run = 0; run < runs; run++) {
            new ModelTest(run).calls();
        }
        Check.finish();
    }

    private void calls() {
        int skaters = random.nextInt(5);
        for (int s = 0; s < skaters; s++) {
            same("add", x::add, m::add);
            write(text());
            drawn[0] = s;
            same("program", () -> x.program(drawn[0]), () -> m.program(drawn[0]));
        }
        while (done < CALLS) {
            if (random.nextInt(60) == 0) {
                write(text());
                same("program", () -> x.program(drawn[0]), () -> m.program(drawn[0]));
            } else if (random.nextInt(60) == 0) {
                write(random.nextBoolean() ? element() : wrongText());
            } else if (random.nextInt(60) == 0) {
                all();
            } else {
                one(random.nextInt(40));
            }
        }
    }

    /** The arguments are drawn before the calls: both get the same ones. */
    private int[] drawn = new int[8];

    private void draw() {
        drawn = new int[8];
        drawn[0] = number(4);
        drawn[1] = number(random.nextBoolean() ? 4 : 12);
        drawn[2] = number(3);
        drawn[3] = number(4);
        drawn[4] = number(9);
        drawn[5] = random.nextInt(2);
        drawn[6] = random.nextInt(2);
        drawn[7] = random.nextInt();
    }

    /** Mostly 0 to below, now and then something else. */
    private int number(int below) {
        int r = random.nextInt(60);
        return r == 0 ? -1 : r == 1 ? below : r == 2 ? random.nextInt() : random.nextInt(below);
    }

    private int marks(int below) {
        int r = random.nextInt(40);
        return r == 0 ? -1 : r == 1 ? below : r == 2 ? below - 1 : r == 3 ? 0 : random.nextInt(below);
    }

    private void one(int what) {
        draw();
        int s = drawn[0];
        int e = drawn[1];
        int k = drawn[2];
        int c = drawn[3];
        int w = drawn[4];
        boolean is = drawn[5] == 1;
        switch (what) {
            case 0 -> same("add", x::add, m::add);
            case 1, 2, 3, 4 -> {
                int marks = marks(161051);
                same("mark " + marks, () -> x.mark(s, e, marks), () -> m.mark(s, e, marks));
            }
            case 5, 6 -> {
                int marks = marks(115856201);
                same("component " + marks, () -> x.component(s, k, marks), () -> m.component(s, k, marks));
            }
            case 7, 8 -> same("call", () -> x.call(s, e, k, c), () -> m.call(s, e, k, c));
            case 9 -> same("review", () -> x.review(s, e, is), () -> m.review(s, e, is));
            case 10, 11 -> same("fall", () -> x.fall(s, e, is), () -> m.fall(s, e, is));
            case 12 -> same("penalty", () -> x.penalty(s, w), () -> m.penalty(s, w));
            case 13, 14 -> {
                int setting = number(5);
                int v = setting == 0 ? 45 + random.nextInt(260) : number(setting == 2 ? 13 : setting == 4 ? 31 : 6);
                same("set " + setting + " " + v, () -> x.set(setting, v), () -> m.set(setting, v));
            }
            case 15, 16 -> same("undo", x::undo, m::undo);
            case 17, 18 -> same("ifCalled", () -> x.ifCalled(s, e, k, c), () -> m.ifCalled(s, e, k, c));
            case 19, 20 -> same("ifReplaced", () -> x.ifReplaced(s, e), () -> m.ifReplaced(s, e));
            case 21, 22 -> same("bestSwap", () -> x.bestSwap(s, k), () -> m.bestSwap(s, k));
            case 23, 24 -> same("needs", () -> x.needs(s, e), () -> m.needs(s, e));
            case 25 -> same("behind", () -> x.behind(s), () -> m.behind(s));
            case 26, 27, 28 -> {
                int n = 1 + number(3);
                long script = script(n);
                same("runScript " + n + " " + script, () -> x.runScript(n, script), () -> m.runScript(n, script));
            }
            case 29 -> {
                long seed = random.nextLong();
                int turns = number(62);
                same("simulate " + seed + " " + turns, () -> x.simulate(seed, turns), () -> m.simulate(seed, turns));
            }
            case 30 -> same("save", () -> x.save(drawn[6]), () -> m.save(drawn[6]));
            case 31 -> {
                if (random.nextInt(4) == 0) {
                    same("restore", () -> x.restore(drawn[6]), () -> m.restore(drawn[6]));
                }
            }
            case 32 -> same("setting", () -> x.setting(k), () -> m.setting(k));
            case 33 -> same("about", () -> x.about(w), () -> m.about(w));
            case 34, 35 -> same("skater", () -> x.skater(s, w), () -> m.skater(s, w));
            case 36, 37 -> same("element", () -> x.element(s, e, w), () -> m.element(s, e, w));
            default -> same("part", () -> x.part(s, e, k, w), () -> m.part(s, e, k, w));
        }
    }

    /** Everything that can be asked of a skater, and of all. */
    private void all() {
        draw();
        for (int w = 0; w <= 5; w++) {
            drawn[4] = w;
            same("about", () -> x.about(drawn[4]), () -> m.about(drawn[4]));
        }
        for (int w = 0; w <= 7; w++) {
            drawn[4] = w;
            same("skater", () -> x.skater(drawn[0], drawn[4]), () -> m.skater(drawn[0], drawn[4]));
        }
        for (int e = 0; e < m.parts(drawn[0]).length; e++) {
            drawn[1] = e;
            for (int w = 0; w <= 8; w++) {
                drawn[4] = w;
                same("element", () -> x.element(drawn[0], drawn[1], drawn[4]),
                        () -> m.element(drawn[0], drawn[1], drawn[4]));
            }
            parts(m.parts(drawn[0])[e]);
        }
    }

    private void parts(int parts) {
        for (int k = 0; k < parts; k++) {
            drawn[2] = k;
            for (int w = 0; w <= 4; w++) {
                drawn[4] = w;
                same("part", () -> x.part(drawn[0], drawn[1], drawn[2], drawn[4]),
                        () -> m.part(drawn[0], drawn[1], drawn[2], drawn[4]));
            }
        }
    }

    private long script(int n) {
        long script = 0;
        for (int i = 0; i < Math.max(1, Math.min(n, 4)); i++) {
            script = script * 100000 + group();
        }
        int r = random.nextInt(50);
        return r == 0 ? -1 : r == 1 ? random.nextLong() : script;
    }

    private int group() {
        int verb = random.nextInt(10);
        int s = random.nextInt(random.nextInt(10) == 0 ? 10 : verb == 9 ? 1 : verb == 5 ? 5 : 3);
        int rest = switch (verb) {
            case 1, 3 -> random.nextInt(random.nextInt(5) == 0 ? 99 : 13) * 10
                    + random.nextInt(random.nextInt(5) == 0 ? 10 : 2);
            case 2 -> random.nextInt(10) * 100 + random.nextInt(3) * 10 + random.nextInt(5);
            case 5 -> random.nextInt(s == 0 ? 400 : 20);
            case 7 -> random.nextInt(1000);
            case 8 -> random.nextInt(10) * 100 + random.nextInt(3) * 10
                    + (random.nextBoolean() ? 0 : random.nextInt(6));
            case 9 -> random.nextInt(20) * 10 + (random.nextInt(10) == 0 ? 1 : 0);
            default -> random.nextInt(random.nextInt(8) == 0 ? 1000 : verb == 6 ? 4 : 10);
        };
        return verb * 10000 + s * 1000 + rest;
    }

    // ---- texts

    private String jump() {
        String jump = (random.nextInt(10) < 7 ? 3 : 1 + random.nextInt(4))
                + (random.nextInt(10) < 6 ? "T" : "TSOFZA".charAt(random.nextInt(6)) + "");
        String call = new String[] {"", "", "", "", "<", "!", "e"}[random.nextInt(7)];
        return jump + (call.equals("e") && !jump.matches(".[FZ]") ? "" : call);
    }

    private String element() {
        int r = random.nextInt(10);
        if (r < 3) {
            return (r < 2 ? "p" : "s") + random.nextInt(5);
        }
        int parts = 1 + random.nextInt(r < 6 ? 1 : 3);
        StringBuilder chain = new StringBuilder(jump());
        for (int i = 1; i < parts; i++) {
            chain.append('+').append(jump());
        }
        return chain.toString();
    }

    private String text() {
        int elements = 1 + random.nextInt(random.nextInt(3) == 0 ? 3 : 12);
        StringBuilder text = new StringBuilder(element());
        for (int i = 1; i < elements; i++) {
            text.append(';').append(element());
        }
        return random.nextInt(12) == 0 ? spoiled(text.toString()) : text.toString();
    }

    private String wrongText() {
        return spoiled(text() + ";" + text());
    }

    private String spoiled(String text) {
        StringBuilder b = new StringBuilder(text);
        int at = random.nextInt(text.length());
        char sign = "3T<!e+;ps05 \n\u00ff".charAt(random.nextInt(14));
        switch (random.nextInt(3)) {
            case 0 -> b.insert(at, sign);
            case 1 -> b.setCharAt(at, sign);
            default -> b.deleteCharAt(at);
        }
        return b.toString();
    }

    private void write(String text) {
        draw();
        same("clearText", x::clearText, m::clearText);
        for (int i = 0; i < text.length(); i++) {
            int c = text.charAt(i);
            same("append " + c, () -> x.append(c), () -> m.append(c));
        }
        same("errorPosition of " + text, x::errorPosition, m::errorPosition);
    }

    /** What comes behind the call 512 is free. */
    private void same(String what, Check.Call own, Check.Call due) {
        if (done >= CALLS) {
            return;
        }
        done++;
        String told = "run " + run + ": " + what + " " + Arrays.toString(drawn);
        long answer = 0;
        String fails = "";
        try {
            answer = due.answer();
        } catch (RuntimeException e) {
            fails = e.getClass().getSimpleName();
        }
        long wanted = answer;
        switch (fails) {
            case "" -> Check.is(wanted, own, told);
            case "IndexOutOfBoundsException" -> Check.isIndex(own, told);
            case "IllegalArgumentException" -> Check.isArgument(own, told);
            case "IllegalStateException" -> Check.isState(own, told);
            default -> Check.report(told + ": the model throws " + fails);
        }
    }
}
