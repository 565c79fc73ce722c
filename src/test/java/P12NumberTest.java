/** Promise 12: number. */
public final class P12NumberTest {
    public static void main(String[] args) {
        HutLoaves hut = new HutLoaves();
        Checks.due("number(-1) without groups", hut.number(-1), Checks.INVALID);
        Checks.due("number(0) without groups", hut.number(0), Checks.MISSING);
        hut.group(2, 5, 1);
        hut.group(2, 0, 1);
        hut.group(2, 3, 1);
        all(hut, 0, 1, 2);
        hut.end(1);
        all(hut, 0, 2);
        hut.group(1, 0, 1);
        all(hut, 0, 2, 3);
        hut.off(0);
        all(hut, 2, 3);
        for (int k = 0; k < 8; k++) {
            hut.group(1, 9, 9);
        }
        all(hut, 2, 3, 4, 5, 6, 7, 8, 9, 10, 11);
        hut.end(60);
        all(hut);
        Checks.finish(P12NumberTest.class);
    }

    private static void all(HutLoaves hut, int... want) {
        for (int index = 0; index < want.length; index++) {
            Checks.due("number(" + index + ")", hut.number(index), want[index]);
        }
        Checks.due("number(-1)", hut.number(-1), Checks.INVALID);
        Checks.due("number(min)", hut.number(Integer.MIN_VALUE), Checks.INVALID);
        Checks.due("number(" + want.length + ")", hut.number(want.length), Checks.MISSING);
        Checks.due("number(10)", hut.number(10), Checks.MISSING);
        Checks.due("number(max)", hut.number(Integer.MAX_VALUE), Checks.MISSING);
    }
}
