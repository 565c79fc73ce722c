/** Promise 10: muleOf. The places of a mule on its ways are in P03SendTest. */
public final class P10MuleOfTest {
    public static void main(String[] args) {
        wrongArguments();
        eachNumberOfEachMule();
        Checks.finish(P10MuleOfTest.class);
    }

    private static void wrongArguments() {
        HutLoaves hut = new HutLoaves();
        Checks.due("muleOf(0, 0) without mules", hut.muleOf(0, 0), Checks.INVALID);
        hut.mule(5, 5);
        Checks.due("muleOf(0, -1)", hut.muleOf(0, -1), Checks.INVALID);
        Checks.due("muleOf(0, 8)", hut.muleOf(0, 8), Checks.INVALID);
        Checks.due("muleOf(0, max)", hut.muleOf(0, Integer.MAX_VALUE), Checks.INVALID);
        Checks.due("muleOf(1, 0)", hut.muleOf(1, 0), Checks.INVALID);
        Checks.due("muleOf(-1, 0)", hut.muleOf(-1, 0), Checks.INVALID);
        Checks.due("muleOf(min, 0)", hut.muleOf(Integer.MIN_VALUE, 0), Checks.INVALID);
        hut.mule(5, 5);
        hut.mule(5, 5);
        hut.mule(5, 5);
        Checks.due("muleOf(3, 7)", hut.muleOf(3, 7), 0);
        Checks.due("muleOf(4, 7)", hut.muleOf(4, 7), Checks.INVALID);
    }

    private static void all(HutLoaves hut, int mule, int... want) {
        for (int what = 0; what < want.length; what++) {
            Checks.due("muleOf(" + mule + ", " + what + ")", hut.muleOf(mule, what), want[what]);
        }
    }

    private static void eachNumberOfEachMule() {
        HutLoaves hut = Checks.withMules(0);
        hut.mule(11, 1);
        hut.mule(12, 7);
        hut.mule(13, 8);
        hut.send(0, 3);
        hut.send(1, 4);
        hut.end(4);
        hut.send(1, 6);
        hut.end(1);
        all(hut, 0, 11, 1, 3, 4, 0, 1, 3, 1);
        all(hut, 1, 12, 7, 1, 1, 6, 2, 4, 0);
        all(hut, 2, 13, 8, 0, 0, 0, 0, 0, 0);
        hut.end(4);
        hut.send(0, 2);
        hut.end(4);
        all(hut, 0, 11, 1, 3, 5, 0, 1, 5, 2);
        all(hut, 1, 12, 7, 0, 0, 0, 2, 10, 0);
    }
}
