/** Promise 4: rest. */
public final class P04RestTest {
    public static void main(String[] args) {
        wrongArguments();
        onlyAtHome();
        keepsFromGoingLame();
        Checks.finish(P04RestTest.class);
    }

    private static void wrongArguments() {
        HutLoaves hut = new HutLoaves();
        Checks.due("rest(0) without mules", hut.rest(0), Checks.INVALID);
        hut.mule(5, 5);
        int[] counts = Checks.counts(hut);
        Checks.due("rest(-1)", hut.rest(-1), Checks.INVALID);
        Checks.due("rest(1)", hut.rest(1), Checks.INVALID);
        Checks.due("rest(4)", hut.rest(4), Checks.INVALID);
        Checks.due("rest(min)", hut.rest(Integer.MIN_VALUE), Checks.INVALID);
        Checks.unchanged("a wrong rest", hut, counts);
        Checks.due("rest(0)", hut.rest(0), 0);
        Checks.due("a rest is a change", hut.count(18), counts[18] + 1);
    }

    private static void onlyAtHome() {
        HutLoaves hut = Checks.withMules(2);
        hut.send(0, 1);
        int[] counts = Checks.counts(hut);
        Checks.due("on its way up", hut.rest(0), Checks.IMPOSSIBLE);
        Checks.unchanged("rest on the way", hut, counts);
        hut.end(2);
        Checks.due("on its way down", hut.rest(0), Checks.IMPOSSIBLE);
        hut.end(2);
        Checks.due("at home", hut.rest(0), 1);
        Checks.due("sent 0 times since", hut.muleOf(0, 5), 0);
        Checks.due("what it brought stays", hut.muleOf(0, 6), 1);
        Checks.due("again", hut.rest(0), 0);
        Checks.due("the other one", hut.rest(1), 0);
    }

    private static void keepsFromGoingLame() {
        HutLoaves hut = Checks.withMules(0);
        hut.mule(5, 2);
        hut.send(0, 1);
        hut.end(4);
        hut.rest(0);
        hut.send(0, 1);
        hut.end(4);
        Checks.due("not lame", hut.muleOf(0, 2), 0);
        hut.send(0, 1);
        Checks.due("sent twice", hut.muleOf(0, 5), 2);
        hut.end(4);
        Checks.due("lame", hut.muleOf(0, 2), 3);
    }
}
