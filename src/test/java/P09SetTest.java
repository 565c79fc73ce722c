/** Promise 9: set. */
public final class P09SetTest {
    private static final int[] LOWEST = {1, 10, 0, 0};
    private static final int[] HIGHEST = {9, 500, 15, 90};
    private static final int[] FIRST = {2, 100, 3, 10};

    public static void main(String[] args) {
        ranges();
        wrongSettings();
        debtAboveStays();
        Checks.finish(P09SetTest.class);
    }

    private static void ranges() {
        HutLoaves hut = new HutLoaves();
        for (int what = 0; what <= 3; what++) {
            int[] counts = Checks.counts(hut);
            Checks.due("below " + what, hut.set(what, LOWEST[what] - 1), Checks.INVALID);
            Checks.due("above " + what, hut.set(what, HIGHEST[what] + 1), Checks.INVALID);
            Checks.due("max of " + what, hut.set(what, Integer.MAX_VALUE), Checks.INVALID);
            Checks.due("min of " + what, hut.set(what, Integer.MIN_VALUE), Checks.INVALID);
            Checks.unchanged("a wrong set", hut, counts);
            Checks.due("lowest of " + what, hut.set(what, LOWEST[what]), FIRST[what]);
            Checks.due("count", hut.count(20 + what), LOWEST[what]);
            Checks.due("highest of " + what, hut.set(what, HIGHEST[what]), LOWEST[what]);
            Checks.due("count", hut.count(20 + what), HIGHEST[what]);
            Checks.due("the same again", hut.set(what, HIGHEST[what]), HIGHEST[what]);
        }
        for (int what = 0; what <= 3; what++) {
            Checks.due("each setting stands alone", hut.count(20 + what), HIGHEST[what]);
        }
        hut = new HutLoaves();
        hut.set(0, 2);
        Checks.due("the same value is a change, too", hut.count(18), 1);
    }

    private static void wrongSettings() {
        HutLoaves hut = new HutLoaves();
        int[] counts = Checks.counts(hut);
        Checks.due("set(4, 5)", hut.set(4, 5), Checks.INVALID);
        Checks.due("set(-1, 5)", hut.set(-1, 5), Checks.INVALID);
        Checks.due("set(max, 5)", hut.set(Integer.MAX_VALUE, 5), Checks.INVALID);
        Checks.due("set(min, 5)", hut.set(Integer.MIN_VALUE, 5), Checks.INVALID);
        Checks.unchanged("a wrong setting", hut, counts);
    }

    private static void debtAboveStays() {
        HutLoaves hut = Checks.withoutSnow();
        hut.mule(30, 9);
        hut.mule(30, 9);
        Checks.due("send(0, 30)", hut.send(0, 30), 60);
        Checks.due("set(1, 10)", hut.set(1, 10), 100);
        Checks.due("the debt stays", hut.count(6), 60);
        Checks.due("no more credit", hut.send(1, 1), Checks.IMPOSSIBLE);
        hut.group(12, 0, 9);
        hut.end(5);
        Checks.due("pay(51)", hut.pay(51), 9);
        hut.set(0, 1);
        Checks.due("send(1, 2)", hut.send(1, 2), Checks.IMPOSSIBLE);
        Checks.due("send(1, 1)", hut.send(1, 1), 10);
    }
}
