/** Promise 11: groupOf. */
public final class P11GroupOfTest {
    public static void main(String[] args) {
        wrongArguments();
        loavesThatItWants();
        eachNumberOfEachGroup();
        isThere();
        Checks.finish(P11GroupOfTest.class);
    }

    private static void wrongArguments() {
        HutLoaves hut = new HutLoaves();
        Checks.due("groupOf(0, 0) without groups", hut.groupOf(0, 0), Checks.INVALID);
        hut.group(5, 5, 5);
        Checks.due("groupOf(0, -1)", hut.groupOf(0, -1), Checks.INVALID);
        Checks.due("groupOf(0, 7)", hut.groupOf(0, 7), Checks.INVALID);
        Checks.due("groupOf(0, max)", hut.groupOf(0, Integer.MAX_VALUE), Checks.INVALID);
        Checks.due("groupOf(1, 0)", hut.groupOf(1, 0), Checks.INVALID);
        Checks.due("groupOf(-1, 0)", hut.groupOf(-1, 0), Checks.INVALID);
        Checks.due("groupOf(min, 0)", hut.groupOf(Integer.MIN_VALUE, 0), Checks.INVALID);
    }

    private static void loavesThatItWants() {
        int[] want = {0, 1, 1, 2, 2, 3, 3, 4, 4, 5, 5, 6, 6};
        for (int persons = 1; persons <= 12; persons++) {
            HutLoaves hut = new HutLoaves();
            hut.group(persons, 0, 1);
            Checks.due("wanted by " + persons, hut.groupOf(0, 3), want[persons]);
        }
    }

    private static void all(HutLoaves hut, int group, int... want) {
        for (int what = 0; what < want.length; what++) {
            Checks.due("groupOf(" + group + ", " + what + ")", hut.groupOf(group, what), want[what]);
        }
    }

    private static void eachNumberOfEachGroup() {
        HutLoaves hut = Checks.withMules(1);
        hut.send(0, 5);
        hut.end(1);
        hut.group(7, 0, 3);
        hut.group(3, 1, 4);
        hut.group(1, 60, 9);
        all(hut, 0, 7, 1, 3, 4, 1, 0, 0);
        hut.end(1);
        all(hut, 0, 7, 1, 3, 4, 1, 21, 0);
        all(hut, 1, 3, 2, 4, 2, 1, 0, 0);
        hut.end(1);
        all(hut, 0, 7, 1, 3, 4, 1, 28, 1);
        all(hut, 1, 3, 2, 4, 2, 1, 3, 1);
        all(hut, 2, 1, 61, 9, 1, 0, 0, 0);
        hut.end(1);
        Checks.due("gone", hut.groupOf(0, 0), Checks.INVALID);
        all(hut, 1, 3, 2, 4, 2, 1, 6, 2);
    }

    private static void isThere() {
        HutLoaves hut = new HutLoaves();
        hut.group(2, 3, 2);
        int[] there = {0, 0, 0, 1, 1};
        for (int day = 0; day < there.length; day++) {
            Checks.due("is there on the day " + day, hut.groupOf(0, 4), there[day]);
            hut.end(1);
        }
        Checks.due("gone after its nights", hut.groupOf(0, 4), Checks.INVALID);
    }
}
