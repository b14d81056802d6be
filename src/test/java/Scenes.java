/** Sheets in states that a refused call could spoil. Each one is made by fewer than 200 calls. */
final class Scenes {
    private Scenes() {
    }

    /** No skaters, no text, nothing remembered, nothing saved. */
    static SkateSheet empty() {
        return new SkateSheet();
    }

    /** Two skaters with all that belongs to them, fewer than 14 states, one slot, a text of one element. */
    static SkateSheet some() {
        SkateSheet x = new SkateSheet();
        x.add();
        x.save(1);
        x.add();
        Sheets.give(x, 0, "3F+2T<;p1;s4");
        Sheets.give(x, 1, "1A");
        x.mark(0, 0, Sheets.marks(3, 1, -2, 5, 0));
        x.mark(0, 2, Sheets.marks(-1));
        x.component(0, 1, Sheets.components(20, 21, 22, 23, 24));
        x.component(1, 2, Sheets.components(7, 7, 9, 8, 8));
        x.fall(0, 1, true);
        x.review(0, 2, true);
        x.penalty(1, 4);
        x.set(4, 20);
        x.undo();
        Sheets.write(x, "3Ze");
        return x;
    }

    /** Four skaters, 14 states behind more than 14 actions, both slots, 120 characters that are no program. */
    static SkateSheet full() {
        SkateSheet x = Sheets.of("3Z+2T+1A;p4", "3T", "s2", "1O!");
        x.save(0);
        for (int i = 0; i < 5; i++) {
            x.penalty(i % 4, i + 1);
            x.set(0, 50 + 50 * i);
        }
        x.fall(0, 0, true);
        x.review(2, 0, true);
        x.mark(0, 0, Sheets.marks(1));
        x.component(3, 0, Sheets.components(40, 40, 40, 40, 40));
        x.call(0, 0, 0, 3);
        x.save(1);
        x.mark(0, 0, Sheets.marks(2));
        x.fall(1, 0, true);
        x.clearText();
        for (int i = 0; i < 120; i++) {
            x.append('p');
        }
        return x;
    }

    /** A skater with 12 elements, behind restore: nothing is remembered. The text is of two elements. */
    static SkateSheet restored() {
        SkateSheet x = Sheets.of("1T;1S;1O;p0;p1;p2;s3;1T+1T;1F;1Z;1A;2A<");
        x.mark(0, 11, Sheets.marks(4));
        x.fall(0, 11, true);
        x.save(0);
        x.mark(0, 11, Sheets.marks(5));
        x.restore(0);
        Sheets.write(x, "3T;p1");
        return x;
    }

    /** A skater without elements, and no text. */
    static SkateSheet bare() {
        SkateSheet x = new SkateSheet();
        x.add();
        return x;
    }
}
