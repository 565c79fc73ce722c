/** Promise 22: type. */
public final class P22TypeTest {
    public static void main(String[] args) {
        outOfRange();
        sixtyCharacters();
        isNoChange();
        Checks.finish(P22TypeTest.class);
    }

    private static void outOfRange() {
        HutLoaves hut = new HutLoaves();
        Checks.due("type(31)", hut.type(31), Checks.INVALID);
        Checks.due("type(127)", hut.type(127), Checks.INVALID);
        Checks.due("type(-1)", hut.type(-1), Checks.INVALID);
        Checks.due("type(0)", hut.type(0), Checks.INVALID);
        Checks.due("type(max)", hut.type(Integer.MAX_VALUE), Checks.INVALID);
        Checks.due("type(65536 + 'd')", hut.type(65536 + 'd'), Checks.INVALID);
        Checks.due("length", hut.count(19), 0);
        Checks.due("type(32)", hut.type(32), 1);
        Checks.due("type(126)", hut.type(126), 2);
        Checks.due("length", hut.count(19), 2);
    }

    private static void sixtyCharacters() {
        HutLoaves hut = new HutLoaves();
        String orders = "d1;d02;d003;";
        for (int k = 0; k < 60; k++) {
            Checks.due("type", hut.type(orders.charAt(k % orders.length())), k + 1);
        }
        Checks.due("type of a 61st", hut.type('d'), Checks.LIMIT);
        Checks.due("type(31) of a 61st", hut.type(31), Checks.INVALID);
        Checks.due("type(127) of a 61st", hut.type(127), Checks.INVALID);
        Checks.due("length", hut.count(19), 60);
        Checks.due("play of all", hut.play(), 15);
        Checks.due("day", hut.count(3), 30);
        Checks.due("clearText", hut.clearText(), 60);
        Checks.due("type", hut.type('d'), 1);
    }

    private static void isNoChange() {
        HutLoaves hut = new HutLoaves();
        hut.type('d');
        Checks.due("states", hut.count(18), 0);
        Checks.due("undo()", hut.undo(), Checks.IMPOSSIBLE);
        Checks.due("length", hut.count(19), 1);
    }
}
