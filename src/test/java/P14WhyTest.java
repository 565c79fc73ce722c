/** Promise 14: why. */
public final class P14WhyTest {
    public static void main(String[] args) {
        wrongArguments();
        reasonsInTheirOrder();
        creditToTheLoaf();
        atHomeOnly();
        Checks.finish(P14WhyTest.class);
    }

    private static void wrongArguments() {
        HutLoaves hut = new HutLoaves();
        Checks.due("why(0, 1) without mules", hut.why(0, 1), Checks.INVALID);
        hut.mule(30, 5);
        Checks.due("why(0, 0)", hut.why(0, 0), Checks.INVALID);
        Checks.due("why(0, 31)", hut.why(0, 31), Checks.INVALID);
        Checks.due("why(0, max)", hut.why(0, Integer.MAX_VALUE), Checks.INVALID);
        Checks.due("why(1, 1)", hut.why(1, 1), Checks.INVALID);
        Checks.due("why(-1, 1)", hut.why(-1, 1), Checks.INVALID);
        Checks.due("why(4, 1)", hut.why(4, 1), Checks.INVALID);
        int[] counts = Checks.counts(hut);
        Checks.due("why(0, 1)", hut.why(0, 1), 0);
        Checks.due("why(0, 30)", hut.why(0, 30), 0);
        Checks.unchanged("why", hut, counts);
    }

    private static void reasonsInTheirOrder() {
        HutLoaves hut = Checks.withoutSnow();
        hut.mule(10, 5);
        hut.mule(20, 5);
        hut.set(1, 20);
        Checks.due("can go", hut.why(0, 10), 0);
        Checks.due("too many", hut.why(0, 11), 2);
        Checks.due("too many rather than too dear", hut.why(1, 21), 2);
        Checks.due("too dear", hut.why(1, 11), 3);
        hut.send(0, 10);
        Checks.due("not at home rather than too many", hut.why(0, 30), 1);
        Checks.due("not at home rather than too dear", hut.why(0, 1), 1);
        Checks.due("too dear", hut.why(1, 1), 3);
    }

    private static void creditToTheLoaf() {
        HutLoaves hut = Checks.withoutSnow();
        hut.mule(30, 5);
        hut.set(0, 7);
        Checks.due("98 of 100", hut.why(0, 14), 0);
        Checks.due("105 of 100", hut.why(0, 15), 3);
        hut.set(1, 105);
        Checks.due("105 of 105", hut.why(0, 15), 0);
        hut.set(1, 104);
        Checks.due("105 of 104", hut.why(0, 15), 3);
    }

    private static void atHomeOnly() {
        HutLoaves hut = Checks.withMules(0);
        hut.mule(10, 1);
        hut.send(0, 1);
        int[] want = {1, 1, 1, 1, 1, 1, 1, 1, 1, 0};
        for (int day = 0; day < want.length; day++) {
            Checks.due("why on the day " + day, hut.why(0, 1), want[day]);
            hut.end(1);
        }
    }
}
