/** Promise 5: pay. */
public final class P05PayTest {
    public static void main(String[] args) {
        outOfRange();
        notMoreThanTheHutHas();
        notMoreThanItOwes();
        upToFiveHundred();
        Checks.finish(P05PayTest.class);
    }

    private static void outOfRange() {
        HutLoaves hut = new HutLoaves();
        int[] counts = Checks.counts(hut);
        Checks.due("pay(0)", hut.pay(0), Checks.INVALID);
        Checks.due("pay(501)", hut.pay(501), Checks.INVALID);
        Checks.due("pay(-1)", hut.pay(-1), Checks.INVALID);
        Checks.due("pay(max)", hut.pay(Integer.MAX_VALUE), Checks.INVALID);
        Checks.due("pay(1)", hut.pay(1), Checks.IMPOSSIBLE);
        Checks.due("pay(500)", hut.pay(500), Checks.IMPOSSIBLE);
        Checks.unchanged("a wrong pay", hut, counts);
    }

    private static void notMoreThanTheHutHas() {
        HutLoaves hut = Checks.withMules(1);
        hut.send(0, 30);
        Checks.due("no money", hut.pay(1), Checks.IMPOSSIBLE);
        hut.group(10, 0, 1);
        hut.end(1);
        Checks.due("money of hungry guests", hut.count(5), 10);
        Checks.due("pay(11)", hut.pay(11), Checks.IMPOSSIBLE);
        Checks.due("pay(4)", hut.pay(4), 26);
        Checks.due("pay(7)", hut.pay(7), Checks.IMPOSSIBLE);
        Checks.due("pay(6)", hut.pay(6), 20);
        Checks.due("money", hut.count(5), 0);
        Checks.due("debt", hut.count(6), 20);
        Checks.due("paid to the baker", hut.count(17), 10);
        Checks.due("paid by groups", hut.count(16), 10);
    }

    private static void notMoreThanItOwes() {
        HutLoaves hut = Checks.withMules(1);
        hut.group(10, 0, 1);
        hut.end(1);
        Checks.due("no debt", hut.pay(1), Checks.IMPOSSIBLE);
        hut.send(0, 3);
        int[] counts = Checks.counts(hut);
        Checks.due("pay(4)", hut.pay(4), Checks.IMPOSSIBLE);
        Checks.unchanged("paying too much", hut, counts);
        Checks.due("pay(3)", hut.pay(3), 0);
        Checks.due("money", hut.count(5), 7);
    }

    private static void upToFiveHundred() {
        HutLoaves hut = Checks.withMules(1);
        hut.set(0, 9);
        hut.send(0, 30);
        hut.end(4);
        hut.send(0, 25);
        Checks.due("debt", hut.count(6), 495);
        hut.set(0, 1);
        hut.end(4);
        hut.send(0, 5);
        Checks.due("debt", hut.count(6), 500);
        for (int round = 0; round < 5; round++) {
            for (int k = 0; k < 10; k++) {
                hut.group(12, 0, 1);
            }
            hut.end(1);
        }
        Checks.due("enough money", hut.count(5) >= 500 ? 1 : 0, 1);
        Checks.due("pay(501)", hut.pay(501), Checks.INVALID);
        Checks.due("pay(500)", hut.pay(500), 0);
        Checks.due("pay(500) again", hut.pay(500), Checks.IMPOSSIBLE);
    }
}
