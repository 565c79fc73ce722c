/** Promise 23: clearText. */
public final class P23ClearTextTest {
    public static void main(String[] args) {
        HutLoaves hut = new HutLoaves();
        Checks.due("clearText() at first", hut.clearText(), 0);
        hut.type('q');
        Checks.due("fault(0)", hut.fault(0), 0);
        Checks.due("clearText()", hut.clearText(), 1);
        Checks.due("length", hut.count(19), 0);
        Checks.due("fault(0)", hut.fault(0), Checks.MISSING);
        Checks.due("clearText() again", hut.clearText(), 0);
        Checks.due("is no change", hut.count(18), 0);
        Checks.write(hut, "d1;d2;");
        Checks.due("clearText()", hut.clearText(), 6);
        Checks.due("type", hut.type('d'), 1);
        Checks.due("nothing of the old text is left", hut.fault(2), 1);
        Checks.due("play()", hut.play(), Checks.IMPOSSIBLE);
        Checks.due("day", hut.count(3), 0);
        Checks.finish(P23ClearTextTest.class);
    }
}
