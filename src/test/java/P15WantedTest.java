/** Promise 15: wanted. */
public final class P15WantedTest {
    public static void main(String[] args) {
        outOfRange();
        byDays();
        farAhead();
        Checks.finish(P15WantedTest.class);
    }

    private static void outOfRange() {
        HutLoaves hut = new HutLoaves();
        hut.group(12, 0, 9);
        Checks.due("wanted(-1)", hut.wanted(-1), Checks.INVALID);
        Checks.due("wanted(61)", hut.wanted(61), Checks.INVALID);
        Checks.due("wanted(max)", hut.wanted(Integer.MAX_VALUE), Checks.INVALID);
        Checks.due("wanted(min)", hut.wanted(Integer.MIN_VALUE), Checks.INVALID);
    }

    private static void byDays() {
        HutLoaves hut = new HutLoaves();
        hut.group(3, 0, 2);
        hut.group(5, 1, 3);
        hut.group(12, 3, 1);
        int[] want = {2, 5, 3, 9, 0, 0};
        int[] counts = Checks.counts(hut);
        for (int days = 0; days < want.length; days++) {
            Checks.due("wanted(" + days + ")", hut.wanted(days), want[days]);
        }
        Checks.unchanged("wanted", hut, counts);
        hut.end(1);
        for (int days = 0; days + 1 < want.length; days++) {
            Checks.due("a day later, wanted(" + days + ")", hut.wanted(days), want[days + 1]);
        }
        hut.off(1);
        int[] left = {2, 0, 6, 0};
        for (int days = 0; days < left.length; days++) {
            Checks.due("with one off, wanted(" + days + ")", hut.wanted(days), left[days]);
        }
    }

    private static void farAhead() {
        HutLoaves hut = new HutLoaves();
        hut.group(1, 60, 1);
        hut.group(9, 52, 8);
        hut.group(9, 52, 9);
        Checks.due("wanted(60)", hut.wanted(60), 6);
        Checks.due("wanted(59)", hut.wanted(59), 10);
        Checks.due("wanted(52)", hut.wanted(52), 10);
        Checks.due("wanted(51)", hut.wanted(51), 0);
    }
}
