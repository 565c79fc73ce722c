/** Promise 7: off. */
public final class P07OffTest {
    public static void main(String[] args) {
        wrongArguments();
        leavesTheOthers();
        oneThatIsThereLeaves();
        Checks.finish(P07OffTest.class);
    }

    private static void wrongArguments() {
        HutLoaves hut = new HutLoaves();
        Checks.due("off(0) without groups", hut.off(0), Checks.INVALID);
        hut.group(2, 1, 1);
        int[] counts = Checks.counts(hut);
        Checks.due("off(-1)", hut.off(-1), Checks.INVALID);
        Checks.due("off(1)", hut.off(1), Checks.INVALID);
        Checks.due("off(max)", hut.off(Integer.MAX_VALUE), Checks.INVALID);
        Checks.unchanged("a wrong off", hut, counts);
        Checks.due("off(0)", hut.off(0), 0);
        Checks.due("off is a change", hut.count(18), counts[18] + 1);
        Checks.due("off(0) again", hut.off(0), Checks.INVALID);
    }

    private static void leavesTheOthers() {
        HutLoaves hut = new HutLoaves();
        for (int k = 0; k < 10; k++) {
            hut.group(1 + k, k, 1);
        }
        Checks.due("off(3)", hut.off(3), 9);
        Checks.due("off(9)", hut.off(9), 8);
        Checks.due("off(0)", hut.off(0), 7);
        int[] left = {1, 2, 4, 5, 6, 7, 8};
        for (int k = 0; k < left.length; k++) {
            Checks.due("number(" + k + ")", hut.number(k), left[k]);
            Checks.due("persons of " + left[k], hut.groupOf(left[k], 0), left[k] + 1);
            Checks.due("day of " + left[k], hut.groupOf(left[k], 1), left[k]);
        }
        Checks.due("number(7)", hut.number(7), Checks.MISSING);
        Checks.due("count(1)", hut.count(1), 7);
        Checks.due("count(2)", hut.count(2), 10);
    }

    private static void oneThatIsThereLeaves() {
        HutLoaves hut = Checks.withoutSnow();
        hut.group(5, 0, 4);
        hut.end(1);
        Checks.due("paid", hut.groupOf(0, 5), 5);
        Checks.due("off(0)", hut.off(0), 0);
        Checks.due("groupOf(0, 0)", hut.groupOf(0, 0), Checks.INVALID);
        hut.end(1);
        Checks.due("pays no more", hut.count(16), 5);
        Checks.due("hungry no more", hut.count(15), 1);
        Checks.due("wanted(0)", hut.wanted(0), 0);
    }
}
