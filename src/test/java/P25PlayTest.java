/** Promise 25: play. */
public final class P25PlayTest {
    public static void main(String[] args) {
        emptyText();
        asByCalls();
        oneChange();
        faultyText();
        theTextStays();
        Checks.finish(P25PlayTest.class);
    }

    private static void emptyText() {
        HutLoaves hut = new HutLoaves();
        Checks.due("play()", hut.play(), 0);
        Checks.due("is a change", hut.count(18), 1);
        Checks.due("undo()", hut.undo(), 0);
    }

    private static HutLoaves hut() {
        HutLoaves hut = Checks.withoutSnow();
        hut.mule(9, 9);
        hut.mule(20, 9);
        return hut;
    }

    private static void asByCalls() {
        HutLoaves played = hut();
        Checks.write(played, "g7,1,4;s1,20;d3;g2,02,003;x1;g12,0,9;p12;s0,09;d010;");
        Checks.due("play()", played.play(), 9);
        HutLoaves called = hut();
        called.group(7, 1, 4);
        called.send(1, 20);
        called.end(3);
        called.group(2, 2, 3);
        called.off(1);
        called.group(12, 0, 9);
        Checks.due("pay(12)", called.pay(12), 28);
        called.send(0, 9);
        called.end(10);
        for (int what = 0; what < 24; what++) {
            if (what != 18 && what != 19) {
                Checks.due("count(" + what + ")", played.count(what), called.count(what));
            }
        }
        for (int mule = 0; mule < 2; mule++) {
            for (int what = 0; what <= 7; what++) {
                Checks.due("muleOf(" + mule + ", " + what + ")",
                    played.muleOf(mule, what), called.muleOf(mule, what));
            }
        }
        for (int age = 0; age <= 20; age++) {
            Checks.due("loaves(" + age + ")", played.loaves(age), called.loaves(age));
        }
    }

    private static void oneChange() {
        HutLoaves hut = new HutLoaves();
        Checks.write(hut, "d1;d2;d3;d4;d5;");
        Checks.due("play()", hut.play(), 5);
        Checks.due("day", hut.count(3), 15);
        Checks.due("states", hut.count(18), 1);
        Checks.due("undo()", hut.undo(), 0);
        Checks.due("day", hut.count(3), 0);
    }

    private static void faultyText() {
        HutLoaves hut = hut();
        String[] texts = {"q", "d", "d1", "d0;", "d1;d0;", "s0,9;s0,9;", "g1,1,1;x0;x0;", "d1;;"};
        for (String text : texts) {
            Checks.write(hut, text);
            int[] counts = Checks.counts(hut);
            Checks.due("play() of " + text, hut.play(), Checks.IMPOSSIBLE);
            Checks.unchanged("play() of " + text, hut, counts);
            Checks.due("the mule is at home", hut.muleOf(0, 2), 0);
            Checks.due("no group", hut.number(0), Checks.MISSING);
        }
    }

    private static void theTextStays() {
        HutLoaves hut = new HutLoaves();
        Checks.write(hut, "d2;g1,0,1;");
        Checks.due("play()", hut.play(), 2);
        Checks.due("length", hut.count(19), 10);
        Checks.due("play() again", hut.play(), 2);
        Checks.due("day", hut.count(3), 4);
        Checks.due("groups so far", hut.count(2), 2);
        Checks.due("clearText()", hut.clearText(), 10);
    }
}
