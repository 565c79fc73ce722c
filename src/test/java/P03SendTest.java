/** Promise 3: send; and the ways of mules, by the terms. */
public final class P03SendTest {
    public static void main(String[] args) {
        wrongArguments();
        cannotGo();
        creditMayBeReachedButNotPassed();
        priceOfTheDay();
        wayUpAndDown();
        snowHolds();
        lame();
        Checks.finish(P03SendTest.class);
    }

    private static void wrongArguments() {
        HutLoaves hut = Checks.withMules(2);
        int[] counts = Checks.counts(hut);
        Checks.due("send(-1, 1)", hut.send(-1, 1), Checks.INVALID);
        Checks.due("send(2, 1)", hut.send(2, 1), Checks.INVALID);
        Checks.due("send(4, 1)", hut.send(4, 1), Checks.INVALID);
        Checks.due("send(max, 1)", hut.send(Integer.MAX_VALUE, 1), Checks.INVALID);
        Checks.due("send(0, 0)", hut.send(0, 0), Checks.INVALID);
        Checks.due("send(0, 31)", hut.send(0, 31), Checks.INVALID);
        Checks.due("send(0, min)", hut.send(0, Integer.MIN_VALUE), Checks.INVALID);
        Checks.unchanged("a wrong send", hut, counts);
        Checks.due("send(0, 30)", hut.send(0, 30), 30);
        Checks.due("send(1, 1)", hut.send(1, 1), 31);
        Checks.due("on its way, and too many", hut.send(0, 31), Checks.INVALID);
        Checks.due("on its way, and none", hut.send(0, 0), Checks.INVALID);
    }

    private static void cannotGo() {
        HutLoaves hut = Checks.withoutSnow();
        hut.mule(10, 2);
        int[] counts = Checks.counts(hut);
        Checks.due("more than it can carry", hut.send(0, 11), Checks.IMPOSSIBLE);
        Checks.unchanged("too many loaves", hut, counts);
        Checks.due("all that it can carry", hut.send(0, 10), 20);
        counts = Checks.counts(hut);
        Checks.due("on its way up", hut.send(0, 1), Checks.IMPOSSIBLE);
        Checks.unchanged("on its way up", hut, counts);
        hut.end(2);
        Checks.due("place", hut.muleOf(0, 2), 2);
        Checks.due("on its way down", hut.send(0, 1), Checks.IMPOSSIBLE);
        hut.end(2);
        Checks.due("at home again", hut.send(0, 10), 40);
        Checks.due("count(10)", hut.count(10), 20);
    }

    private static void creditMayBeReachedButNotPassed() {
        HutLoaves hut = Checks.withoutSnow();
        hut.mule(30, 9);
        hut.mule(30, 9);
        hut.mule(30, 9);
        Checks.due("send(0, 30)", hut.send(0, 30), 60);
        int[] counts = Checks.counts(hut);
        Checks.due("debt of 102", hut.send(1, 21), Checks.IMPOSSIBLE);
        Checks.unchanged("too great a debt", hut, counts);
        Checks.due("debt of 100", hut.send(1, 20), 100);
        Checks.due("count(6)", hut.count(6), 100);
        Checks.due("one more", hut.send(2, 1), Checks.IMPOSSIBLE);
        hut.set(1, 101);
        Checks.due("one more, with a credit of 101", hut.send(2, 1), Checks.IMPOSSIBLE);
        hut.set(1, 102);
        Checks.due("one more, with a credit of 102", hut.send(2, 1), 102);
    }

    private static void priceOfTheDay() {
        HutLoaves hut = Checks.withoutSnow();
        hut.mule(9, 9);
        hut.mule(9, 9);
        Checks.due("send(0, 4)", hut.send(0, 4), 8);
        hut.set(0, 9);
        Checks.due("send(1, 5)", hut.send(1, 5), 53);
        hut.set(0, 1);
        Checks.due("count(6)", hut.count(6), 53);
        hut.end(2);
        Checks.due("count(6) later", hut.count(6), 53);
        Checks.due("count(5)", hut.count(5), 0);
    }

    private static void place(HutLoaves hut, int mule, int place, int daysToGo, int brings) {
        Checks.due("muleOf(" + mule + ", 2)", hut.muleOf(mule, 2), place);
        Checks.due("muleOf(" + mule + ", 3)", hut.muleOf(mule, 3), daysToGo);
        Checks.due("muleOf(" + mule + ", 4)", hut.muleOf(mule, 4), brings);
    }

    private static void wayUpAndDown() {
        HutLoaves hut = Checks.withMules(2);
        place(hut, 0, 0, 0, 0);
        hut.send(0, 7);
        place(hut, 0, 1, 2, 7);
        place(hut, 1, 0, 0, 0);
        Checks.due("sent once", hut.muleOf(0, 5), 1);
        Checks.due("on the way up", hut.count(9), 7);
        Checks.due("baked", hut.count(10), 7);
        hut.end(1);
        place(hut, 0, 1, 1, 7);
        Checks.due("brought none yet", hut.muleOf(0, 6), 0);
        hut.end(1);
        place(hut, 0, 2, 2, 0);
        Checks.due("brought", hut.muleOf(0, 6), 7);
        Checks.due("stored, two days old", hut.loaves(2), 7);
        Checks.due("nothing on the way up", hut.count(9), 0);
        hut.end(1);
        place(hut, 0, 2, 1, 0);
        hut.end(1);
        place(hut, 0, 0, 0, 0);
        hut.send(0, 3);
        Checks.due("sent twice", hut.muleOf(0, 5), 2);
        hut.end(2);
        Checks.due("brought in all", hut.muleOf(0, 6), 10);
    }

    private static void snowHolds() {
        HutLoaves hut = Checks.withMules(1);
        hut.send(0, 7);
        Checks.endDay(hut, true);
        place(hut, 0, 1, 2, 7);
        Checks.endDay(hut, false);
        place(hut, 0, 1, 1, 7);
        Checks.endDay(hut, true);
        place(hut, 0, 1, 1, 7);
        hut.set(3, 0);
        hut.end(1);
        place(hut, 0, 2, 2, 0);
        Checks.due("four days old", hut.loaves(4), 7);
        Checks.endDay(hut, true);
        place(hut, 0, 2, 2, 0);
    }

    private static void lame() {
        HutLoaves hut = Checks.withMules(0);
        hut.mule(5, 2);
        hut.send(0, 5);
        hut.end(4);
        place(hut, 0, 0, 0, 0);
        Checks.due("not lame yet", hut.muleOf(0, 7), 0);
        hut.send(0, 5);
        hut.end(3);
        place(hut, 0, 2, 1, 0);
        hut.end(1);
        place(hut, 0, 3, 5, 0);
        Checks.due("went lame", hut.muleOf(0, 7), 1);
        Checks.due("has not rested", hut.muleOf(0, 5), 2);
        Checks.due("send of a lame one", hut.send(0, 1), Checks.IMPOSSIBLE);
        Checks.due("rest of a lame one", hut.rest(0), Checks.IMPOSSIBLE);
        Checks.endDay(hut, true);
        place(hut, 0, 3, 4, 0);
        Checks.endDay(hut, false);
        place(hut, 0, 3, 3, 0);
        hut.set(3, 0);
        hut.end(2);
        place(hut, 0, 3, 1, 0);
        Checks.due("has still not rested", hut.muleOf(0, 5), 2);
        hut.end(1);
        place(hut, 0, 0, 0, 0);
        Checks.due("has rested", hut.muleOf(0, 5), 0);
        Checks.due("went lame once", hut.muleOf(0, 7), 1);
        hut.send(0, 1);
        hut.end(4);
        place(hut, 0, 0, 0, 0);
    }
}
