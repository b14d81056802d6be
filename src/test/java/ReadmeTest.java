/** The calls that README.md writes, with the answers that it tells. */
public final class ReadmeTest {
    public static void main(String[] args) {
        SkateSheet x = new SkateSheet();
        Check.is(0, x::add, "add()");
        Sheets.write(x, "3F+2T;p4;3A<");
        Check.is(SkateSheet.NONE, x::errorPosition, "errorPosition()");
        Check.is(3, () -> x.program(0), "program(0)");
        Check.is(15, () -> x.mark(0, 0, 161050), "mark(0, 0, 161050)");
        Check.is(1000, () -> x.component(0, 0, 115856200), "component(0, 0, 115856200)");
        Check.is(1, () -> x.fall(0, 2, true), "fall(0, 2, true)");
        Check.is(640, () -> x.part(0, 2, 0, 3), "part(0, 2, 0, 3)");
        Check.is(704, () -> x.element(0, 2, 2), "element(0, 2, 2)");
        Check.is(2829, () -> x.skater(0, 4), "skater(0, 4)");
        Check.is(0, () -> x.skater(0, 5), "skater(0, 5)");
        Check.is(3005, () -> x.ifCalled(0, 2, 0, 0), "ifCalled(0, 2, 0, 0)");
        Check.is(4, x::undo, "undo()");
        Check.is(2929, () -> x.skater(0, 4), "skater(0, 4) behind undo()");
        Check.finish();
    }
}
