/**
 * Shows that a call leaves a sheet as it was: everything that can be told of the sheet behind the call is told of
 * another one, too, that was made in the same way and did not get the call.
 *
 * A view asks until nothing is left of the sheet, so each one gets a sheet of its own: none has more than 512 calls.
 */
final class Twins {
    /** No more states than these are remembered, and some. */
    private static final int MANY = 20;

    private Twins() {
    }

    interface Maker {
        SkateSheet make();
    }

    interface Asked {
        long answer(SkateSheet x);
    }

    private interface View {
        String of(SkateSheet x);
    }

    /** The call throws the exception that is due, and leaves the sheet as it was. */
    static void refused(Class<? extends RuntimeException> due, Maker maker, Asked call, String what) {
        SkateSheet x = maker.make();
        Check.fails(due, () -> call.answer(x), what);
        unchanged(maker, call, what);
    }

    /** The call leaves the sheet as it was, whatever it answers. */
    static void unchanged(Maker maker, Asked call, String what) {
        view(maker, call, "what is told behind " + what, Sheets::all);
        view(maker, call, "what is kept behind " + what, Twins::kept);
        view(maker, call, "what is remembered behind " + what, Twins::remembered);
        view(maker, call, "the text behind " + what, Twins::text);
        view(maker, call, "the slots behind " + what, Twins::slots);
    }

    private static void view(Maker maker, Asked call, String what, View view) {
        SkateSheet x = maker.make();
        Check.told(() -> call.answer(x));
        Check.same(view.of(maker.make()), view.of(x), what);
    }

    /** What shows in the answers of actions alone: calls, points, and each component. */
    private static String kept(SkateSheet x) {
        StringBuilder b = new StringBuilder();
        int skaters = x.about(0);
        for (int s = 0; s < skaters; s++) {
            int own = s;
            b.append(x.penalty(s, 9)).append(' ');
            for (int k = 0; k < 3; k++) {
                x.component(s, k, 0);
                b.append(x.skater(s, 2)).append(' ');
            }
            int elements = x.skater(s, 0);
            for (int e = 0; e < elements; e++) {
                int at = e;
                b.append(Check.told(() -> x.call(own, at, 0, 0))).append(' ');
            }
        }
        return b.toString();
    }

    private static String remembered(SkateSheet x) {
        StringBuilder b = new StringBuilder();
        String left = "";
        for (int i = 0; i < MANY && !left.equals("IllegalStateException"); i++) {
            left = Check.told(x::undo);
            b.append(left).append(": ").append(brief(x)).append('\n');
        }
        return b.toString();
    }

    private static String brief(SkateSheet x) {
        StringBuilder b = new StringBuilder(Sheets.ofNobody(x));
        int skaters = x.about(0);
        for (int s = 0; s < skaters; s++) {
            b.append(x.skater(s, 1)).append(' ').append(x.skater(s, 4)).append(' ');
        }
        return b.toString();
    }

    private static String text(SkateSheet x) {
        StringBuilder b = new StringBuilder();
        b.append(x.errorPosition()).append(' ');
        b.append(Check.told(() -> x.ifReplaced(0, 0))).append(' ');
        b.append(Check.told(() -> x.program(0))).append(' ');
        b.append(Sheets.all(x)).append(' ');
        b.append(x.clearText());
        return b.toString();
    }

    private static String slots(SkateSheet x) {
        StringBuilder b = new StringBuilder();
        for (int slot = 0; slot < 2; slot++) {
            int own = slot;
            b.append(Check.told(() -> x.restore(own))).append(": ").append(Sheets.all(x)).append('\n');
        }
        return b.toString();
    }
}
