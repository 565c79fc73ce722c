/** Promise 6: group. */
public final class P06GroupTest {
    public static void main(String[] args) {
        outOfRange();
        edges();
        tenAtATime();
        noNumberComesAgain();
        hasPaidNothingAndWasNotHungry();
        Checks.finish(P06GroupTest.class);
    }

    private static void outOfRange() {
        HutLoaves hut = new HutLoaves();
        int[] counts = Checks.counts(hut);
        int[][] wrong = {{0, 0, 1}, {13, 0, 1}, {1, -1, 1}, {1, 61, 1}, {1, 0, 0}, {1, 0, 10},
            {Integer.MIN_VALUE, 0, 1}, {1, Integer.MAX_VALUE, 1}, {1, 0, Integer.MIN_VALUE}};
        for (int[] w : wrong) {
            Checks.due("group(" + w[0] + ", " + w[1] + ", " + w[2] + ")",
                hut.group(w[0], w[1], w[2]), Checks.INVALID);
        }
        Checks.unchanged("a wrong group", hut, counts);
    }

    private static void edges() {
        HutLoaves hut = new HutLoaves();
        hut.end(5);
        Checks.due("group(1, 0, 1)", hut.group(1, 0, 1), 0);
        Checks.due("group(12, 60, 9)", hut.group(12, 60, 9), 1);
        Checks.due("comes", hut.groupOf(0, 1), 5);
        Checks.due("comes", hut.groupOf(1, 1), 65);
        Checks.due("persons", hut.groupOf(1, 0), 12);
        Checks.due("nights", hut.groupOf(1, 2), 9);
        Checks.due("is there", hut.groupOf(0, 4), 1);
        Checks.due("is not there", hut.groupOf(1, 4), 0);
    }

    private static void tenAtATime() {
        HutLoaves hut = new HutLoaves();
        for (int k = 0; k < 10; k++) {
            Checks.due("group " + k, hut.group(1 + k, k, 1), k);
            Checks.due("count(1)", hut.count(1), k + 1);
        }
        int[] counts = Checks.counts(hut);
        Checks.due("an eleventh group", hut.group(1, 0, 1), Checks.LIMIT);
        Checks.due("an eleventh group of 13", hut.group(13, 0, 1), Checks.INVALID);
        Checks.due("an eleventh group in 61 days", hut.group(1, 61, 1), Checks.INVALID);
        Checks.due("an eleventh group for 10 nights", hut.group(1, 0, 10), Checks.INVALID);
        Checks.unchanged("an eleventh group", hut, counts);
        hut.off(4);
        Checks.due("after one is off", hut.group(2, 3, 4), 10);
        hut.end(1);
        Checks.due("after one is gone", hut.group(2, 3, 4), 11);
        Checks.due("full again", hut.group(2, 3, 4), Checks.LIMIT);
        Checks.due("groups so far", hut.count(2), 12);
    }

    private static void noNumberComesAgain() {
        HutLoaves hut = new HutLoaves();
        hut.group(1, 0, 1);
        hut.off(0);
        Checks.due("a second group", hut.group(7, 2, 3), 1);
        Checks.due("the first one", hut.groupOf(0, 0), Checks.INVALID);
        Checks.due("the second one", hut.groupOf(1, 0), 7);
        Checks.due("groups so far", hut.count(2), 2);
        hut.undo();
        Checks.due("the same once more, after undo", hut.group(8, 2, 3), 1);
        Checks.due("it has paid nothing", hut.groupOf(1, 5), 0);
    }

    private static void hasPaidNothingAndWasNotHungry() {
        HutLoaves hut = new HutLoaves();
        for (int k = 0; k < 10; k++) {
            hut.group(12, 0, 1 + k % 2);
        }
        hut.end(1);
        hut.end(1);
        Checks.due("all were hungry", hut.count(15), 15);
        for (int k = 10; k < 20; k++) {
            Checks.due("group " + k, hut.group(1, 0, 1), k);
            Checks.due("paid", hut.groupOf(k, 5), 0);
            Checks.due("hungry days", hut.groupOf(k, 6), 0);
        }
    }
}
