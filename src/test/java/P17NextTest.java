/** Promise 17: next. */
public final class P17NextTest {
    public static void main(String[] args) {
        wrongArguments();
        greatestLoadThenSentLeastThenLowest();
        nobodyAtHome();
        byCredit();
        Checks.finish(P17NextTest.class);
    }

    private static void wrongArguments() {
        HutLoaves hut = new HutLoaves();
        Checks.due("next(2) without mules", hut.next(2), Checks.INVALID);
        Checks.due("next(-1) without mules", hut.next(-1), Checks.INVALID);
        Checks.due("next(0) without mules", hut.next(0), Checks.MISSING);
        Checks.due("next(1) without mules", hut.next(1), Checks.MISSING);
        hut.mule(5, 5);
        Checks.due("next(2)", hut.next(2), Checks.INVALID);
        Checks.due("next(-1)", hut.next(-1), Checks.INVALID);
        Checks.due("next(max)", hut.next(Integer.MAX_VALUE), Checks.INVALID);
        Checks.due("next(min)", hut.next(Integer.MIN_VALUE), Checks.INVALID);
    }

    private static void greatestLoadThenSentLeastThenLowest() {
        HutLoaves hut = Checks.withMules(0);
        hut.mule(10, 9);
        Checks.due("the only one", hut.next(0), 0);
        hut.mule(12, 9);
        hut.mule(12, 1);
        hut.mule(11, 9);
        Checks.due("the lowest of the greatest", hut.next(0), 1);
        Checks.due("by its load", hut.next(1), 12);
        hut.send(1, 1);
        Checks.due("the other one of these", hut.next(0), 2);
        hut.end(4);
        Checks.due("sent least", hut.next(0), 2);
        hut.rest(1);
        Checks.due("sent as often, and lowest", hut.next(0), 1);
        hut.send(1, 1);
        hut.send(2, 1);
        Checks.due("the one that is left with most", hut.next(0), 3);
        Checks.due("by its load", hut.next(1), 11);
        hut.end(4);
        Checks.due("the other one is lame", hut.next(0), 1);
        hut.send(1, 1);
        hut.send(3, 1);
        Checks.due("the smallest", hut.next(0), 0);
        Checks.due("by its load", hut.next(1), 10);
    }

    private static void nobodyAtHome() {
        HutLoaves hut = Checks.withMules(0);
        hut.mule(5, 1);
        hut.send(0, 1);
        for (int day = 0; day < 9; day++) {
            Checks.due("next(0) on the day " + day, hut.next(0), Checks.MISSING);
            Checks.due("next(1) on the day " + day, hut.next(1), Checks.MISSING);
            Checks.due("next(2) on the day " + day, hut.next(2), Checks.INVALID);
            hut.end(1);
        }
        Checks.due("next(0) on the day 9", hut.next(0), 0);
    }

    private static void byCredit() {
        HutLoaves hut = Checks.withoutSnow();
        hut.mule(30, 9);
        hut.mule(20, 9);
        hut.set(0, 3);
        Checks.due("by its load", hut.next(1), 30);
        hut.send(0, 30);
        Checks.due("10 of money for 3 each", hut.next(1), 3);
        int[] counts = Checks.counts(hut);
        Checks.due("and so it can go", hut.why(1, 3), 0);
        Checks.due("not with one more", hut.why(1, 4), 3);
        Checks.unchanged("next", hut, counts);
        hut.set(1, 92);
        Checks.due("2 of money", hut.next(1), 0);
        hut.set(1, 10);
        Checks.due("a debt above the credit", hut.next(1), 0);
        Checks.due("there is a mule yet", hut.next(0), 1);
        hut.set(1, 150);
        Checks.due("just its load by credit", hut.next(1), 20);
        hut.set(1, 149);
        Checks.due("one less", hut.next(1), 19);
        hut.set(1, 91);
        hut.set(0, 1);
        Checks.due("the last one", hut.next(1), 1);
        hut.set(1, 90);
        Checks.due("none", hut.next(1), 0);
    }
}
