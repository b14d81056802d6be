/** The turns of a simulation one by one, with the sheet's own actions. */
final class Turns {
    private Turns() {
    }

    /** Both sheets are in the same state; the second one takes the turns. */
    static void simulation(SkateSheet x, SkateSheet y, long seed, int m) {
        long state = seed;
        for (int i = 0; i < m; i++) {
            state = state * 6364136223846793005L + 1442695040888963407L;
            turn(y, (int) (state >>> 33));
        }
        int sum = 0;
        int skaters = y.about(0);
        for (int s = 0; s < skaters; s++) {
            sum += y.skater(s, 4);
        }
        Check.is(sum, () -> x.simulate(seed, m), "simulate(" + seed + ", " + m + ")");
        Check.is(sum, () -> x.simulate(seed, m), "simulate(" + seed + ", " + m + ") again");
    }

    /** "What would throw an exception is left out." */
    private static void turn(SkateSheet x, int r) {
        int s = r / 8 % 4;
        int e = r / 32 % 12;
        try {
            switch (r % 8) {
                case 0, 1, 2 -> x.mark(s, e, r / 512 % 161051);
                case 3 -> x.component(s, r / 32 % 3, r / 128 % 115856201);
                case 4, 5 -> x.call(s, e, r / 512 % 3, r / 2048 % 4);
                case 6 -> x.fall(s, e, r / 512 % 2 == 0);
                default -> x.penalty(s, r / 32 % 10);
            }
        } catch (IndexOutOfBoundsException | IllegalArgumentException | IllegalStateException left) {
            // the document leaves it out
        }
    }
}
