/** Promise 2: mule. */
public final class P02MuleTest {
    public static void main(String[] args) {
        outOfRange();
        numbersInOrderUpToFour();
        isAtHomeAtFirst();
        Checks.finish(P02MuleTest.class);
    }

    private static void outOfRange() {
        HutLoaves hut = new HutLoaves();
        int[] counts = Checks.counts(hut);
        Checks.due("mule(0, 1)", hut.mule(0, 1), Checks.INVALID);
        Checks.due("mule(31, 1)", hut.mule(31, 1), Checks.INVALID);
        Checks.due("mule(1, 0)", hut.mule(1, 0), Checks.INVALID);
        Checks.due("mule(1, 10)", hut.mule(1, 10), Checks.INVALID);
        Checks.due("mule(-1, 5)", hut.mule(-1, 5), Checks.INVALID);
        Checks.due("mule(min, max)", hut.mule(Integer.MIN_VALUE, Integer.MAX_VALUE), Checks.INVALID);
        Checks.due("mule(max, min)", hut.mule(Integer.MAX_VALUE, Integer.MIN_VALUE), Checks.INVALID);
        Checks.unchanged("a wrong mule", hut, counts);
    }

    private static void numbersInOrderUpToFour() {
        HutLoaves hut = new HutLoaves();
        Checks.due("mule(1, 1)", hut.mule(1, 1), 0);
        Checks.due("mule(30, 9)", hut.mule(30, 9), 1);
        Checks.due("mule(30, 1)", hut.mule(30, 1), 2);
        Checks.due("count(0)", hut.count(0), 3);
        Checks.due("mule(1, 9)", hut.mule(1, 9), 3);
        Checks.due("count(0)", hut.count(0), 4);
        int[] counts = Checks.counts(hut);
        Checks.due("a fifth mule", hut.mule(1, 9), Checks.LIMIT);
        Checks.due("a fifth mule, too weak", hut.mule(1, 0), Checks.INVALID);
        Checks.due("a fifth mule, too great a load", hut.mule(31, 1), Checks.INVALID);
        Checks.unchanged("a fifth mule", hut, counts);
        int[] loads = {1, 30, 30, 1};
        int[] strengths = {1, 9, 1, 9};
        for (int k = 0; k < 4; k++) {
            Checks.due("muleOf(" + k + ", 0)", hut.muleOf(k, 0), loads[k]);
            Checks.due("muleOf(" + k + ", 1)", hut.muleOf(k, 1), strengths[k]);
        }
    }

    private static void isAtHomeAtFirst() {
        HutLoaves hut = new HutLoaves();
        hut.mule(7, 4);
        hut.send(0, 5);
        hut.end(2);
        hut.undo();
        hut.undo();
        hut.undo();
        Checks.due("count(0) after undo", hut.count(0), 0);
        Checks.due("mule(8, 5)", hut.mule(8, 5), 0);
        Checks.due("its load", hut.muleOf(0, 0), 8);
        Checks.due("its strength", hut.muleOf(0, 1), 5);
        nothingElse(hut, 0);
        hut = new HutLoaves();
        hut.mule(7, 1);
        hut.send(0, 5);
        hut.undo();
        hut.undo();
        Checks.due("mule after one that was undone on its way", hut.mule(8, 5), 0);
        nothingElse(hut, 0);
        hut = Checks.withMules(0);
        hut.mule(7, 1);
        hut.send(0, 5);
        hut.end(4);
        Checks.due("lame", hut.muleOf(0, 7), 1);
        hut.undo();
        hut.undo();
        hut.undo();
        Checks.due("mule after one that was undone when lame", hut.mule(8, 5), 0);
        nothingElse(hut, 0);
    }

    private static void nothingElse(HutLoaves hut, int mule) {
        for (int what = 2; what <= 7; what++) {
            Checks.due("muleOf(" + mule + ", " + what + ")", hut.muleOf(mule, what), 0);
        }
    }
}
