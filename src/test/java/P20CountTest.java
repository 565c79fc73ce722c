/** Promise 20: count. */
public final class P20CountTest {
    public static void main(String[] args) {
        outOfRange();
        everyNumber();
        staleOnes();
        accountsAddUp();
        Checks.finish(P20CountTest.class);
    }

    private static void outOfRange() {
        HutLoaves hut = new HutLoaves();
        Checks.due("count(-1)", hut.count(-1), Checks.INVALID);
        Checks.due("count(24)", hut.count(24), Checks.INVALID);
        Checks.due("count(max)", hut.count(Integer.MAX_VALUE), Checks.INVALID);
        Checks.due("count(min)", hut.count(Integer.MIN_VALUE), Checks.INVALID);
    }

    private static void all(HutLoaves hut, int... want) {
        for (int what = 0; what < want.length; what++) {
            Checks.due("count(" + what + ")", hut.count(what), want[what]);
        }
    }

    private static void everyNumber() {
        HutLoaves hut = Checks.withMules(4);
        hut.set(1, 400);
        hut.set(2, 4);
        hut.send(0, 30);
        hut.send(1, 30);
        hut.send(2, 24);
        hut.group(9, 0, 3);
        hut.group(3, 1, 1);
        hut.group(1, 9, 9);
        hut.end(2);
        hut.off(2);
        hut.pay(20);
        hut.send(3, 2);
        Checks.write(hut, "d1;x");
        // x after two days; groups paid 9, then 27 and 9; 7 of 80 loaves were eaten, 4 had no room
        all(hut, 4, 1, 3, 2, 9027, 25, 66, 73, 0, 2, 86, 7, 0, 4, 0, 1, 45, 20, 4, 4, 1, 400, 4, 0);
        hut.set(3, 90);
        hut.end(60);
        Checks.due("groups are gone", hut.count(1), 0);
        Checks.due("days of snow", hut.count(14) > 40 ? 1 : 0, 1);
        Checks.due("eaten", hut.count(11), 12);
        Checks.due("thrown away", hut.count(12), 70);
    }

    private static void staleOnes() {
        HutLoaves hut = Checks.withMules(2);
        hut.send(0, 3);
        hut.end(1);
        hut.send(1, 4);
        hut.end(2);
        int[] stale = {7, 7, 3, 0, 0};
        for (int fresh = 0; fresh < stale.length; fresh++) {
            hut.set(2, fresh);
            Checks.due("stale ones above " + fresh, hut.count(8), stale[fresh]);
        }
        hut.set(2, 15);
        hut.end(12);
        Checks.due("none at 15 days", hut.count(8), 0);
        hut.end(1);
        Checks.due("some at 16 days", hut.count(8), 3);
        hut.end(4);
        Checks.due("all at 20 and 19 days", hut.count(8), 7);
    }

    private static void accountsAddUp() {
        HutLoaves hut = new HutLoaves();
        hut.set(1, 500);
        hut.mule(30, 2);
        hut.mule(28, 3);
        hut.mule(26, 4);
        for (int k = 0; k < 24; k++) {
            hut.send(hut.next(0), hut.next(1));
            hut.group(1 + k % 12, k % 5, 1 + k % 9);
            hut.end(1 + k % 3);
            hut.pay(Math.min(hut.count(5), hut.count(6)));
            Checks.due("baked", hut.count(10),
                hut.count(7) + hut.count(9) + hut.count(11) + hut.count(12) + hut.count(13));
            Checks.due("money", hut.count(5), hut.count(16) - hut.count(17));
            Checks.due("debt", hut.count(6), 2 * hut.count(10) - hut.count(17));
        }
        Checks.due("much was eaten", hut.count(11) > 80 ? 1 : 0, 1);
        Checks.due("much was baked", hut.count(10) > 100 ? 1 : 0, 1);
    }
}
