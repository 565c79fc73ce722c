/** Promise 16: hungry. */
public final class P16HungryTest {
    public static void main(String[] args) {
        nobody();
        thisDayAndTheLastOne();
        breadRunsOut();
        soupIsEnough();
        onlyWhatIsAhead();
        afterTheLastDay();
        Checks.finish(P16HungryTest.class);
    }

    private static void nobody() {
        HutLoaves hut = new HutLoaves();
        Checks.due("without groups", hut.hungry(), Checks.MISSING);
    }

    private static void thisDayAndTheLastOne() {
        HutLoaves hut = new HutLoaves();
        hut.group(1, 60, 9);
        Checks.due("on the day 60", hut.hungry(), Checks.MISSING);
        int[] counts = Checks.counts(hut);
        hut.group(1, 59, 9);
        Checks.due("on the day 59", hut.hungry(), 60);
        hut.undo();
        Checks.unchanged("hungry", hut, counts);
        hut.group(1, 0, 1);
        Checks.due("on this day", hut.hungry(), 1);
    }

    private static void breadRunsOut() {
        HutLoaves hut = Checks.withMules(2);
        hut.send(0, 10);
        hut.group(4, 2, 9);
        hut.set(2, 15);
        Checks.due("10 loaves for 2 a day, from the day 2", hut.hungry(), 8);
        hut.end(1);
        Checks.due("a day later", hut.hungry(), 7);
        hut.send(1, 6);
        Checks.due("with 6 more", hut.hungry(), 10);
        hut.undo();
        Checks.due("without them", hut.hungry(), 7);
    }

    private static void soupIsEnough() {
        HutLoaves hut = Checks.withMules(1);
        hut.set(2, 0);
        hut.send(0, 7);
        hut.group(2, 1, 9);
        Checks.due("three days of soup, and one loaf", hut.hungry(), 5);
    }

    private static void onlyWhatIsAhead() {
        HutLoaves hut = Checks.withMules(1);
        hut.set(2, 15);
        hut.group(2, 0, 1);
        hut.group(2, 1, 9);
        hut.end(1);
        Checks.due("a day of hunger is over", hut.count(15), 1);
        hut.send(0, 3);
        hut.end(1);
        hut.off(1);
        hut.group(2, 0, 9);
        Checks.due("two days of hunger are over", hut.count(15), 2);
        Checks.due("on three days there is bread", hut.hungry(), 4);
        hut.end(3);
        Checks.due("on none any more", hut.hungry(), 1);
    }

    private static void afterTheLastDay() {
        HutLoaves hut = new HutLoaves();
        for (int k = 0; k < 166; k++) {
            hut.end(60);
        }
        hut.end(39);
        hut.group(1, 10, 1);
        Checks.due("after the day 9999", hut.hungry(), 11);
    }
}
