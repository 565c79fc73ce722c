/** Promise 8: end; and what happens in a day, by the terms. */
public final class P08EndTest {
    public static void main(String[] args) {
        wrongArguments();
        notAboveTheLastDay();
        numberOfSnow();
        oldestFreshOnesFirst();
        soupFeeds();
        soupDoesNotFeed();
        lowestGroupsFirst();
        lowestMulesFirstAndRoom();
        nights();
        tooOldInTheHut();
        twentyDaysOldWhenTheyCome();
        tooOldWhenTheyCome();
        thrownAwayAtOnceAfterOthers();
        Checks.finish(P08EndTest.class);
    }

    private static void wrongArguments() {
        HutLoaves hut = new HutLoaves();
        int[] counts = Checks.counts(hut);
        Checks.due("end(0)", hut.end(0), Checks.INVALID);
        Checks.due("end(61)", hut.end(61), Checks.INVALID);
        Checks.due("end(-1)", hut.end(-1), Checks.INVALID);
        Checks.due("end(max)", hut.end(Integer.MAX_VALUE), Checks.INVALID);
        Checks.unchanged("a wrong end", hut, counts);
        Checks.due("end(1)", hut.end(1), 0);
        Checks.due("end(60)", hut.end(60), 0);
        Checks.due("count(3)", hut.count(3), 61);
    }

    private static void notAboveTheLastDay() {
        HutLoaves hut = new HutLoaves();
        for (int k = 0; k < 166; k++) {
            hut.end(60);
        }
        Checks.due("day", hut.count(3), 9960);
        int[] counts = Checks.counts(hut);
        Checks.due("end(40)", hut.end(40), Checks.LIMIT);
        Checks.due("end(60)", hut.end(60), Checks.LIMIT);
        Checks.due("end(61)", hut.end(61), Checks.INVALID);
        Checks.unchanged("too late an end", hut, counts);
        Checks.due("end(39)", hut.end(39), 0);
        Checks.due("day", hut.count(3), 9999);
        Checks.due("end(1)", hut.end(1), Checks.LIMIT);
        Checks.due("end(0)", hut.end(0), Checks.INVALID);
        Checks.due("day", hut.count(3), 9999);
    }

    private static void numberOfSnow() {
        HutLoaves hut = new HutLoaves();
        int x = 1;
        int snow = 0;
        for (int k = 0; k < 160; k++) {
            hut.end(1);
            x = (x * 421 + 1663) % 10000;
            snow += x % 100 < 10 ? 1 : 0;
            Checks.due("x", hut.count(4), x);
            Checks.due("days of snow", hut.count(14), snow);
        }
        hut = new HutLoaves();
        hut.end(1);
        Checks.due("x of the first day", hut.count(4), 2084);
        hut.set(3, 27);
        hut.end(1);
        Checks.due("x of the second day", hut.count(4), 9027);
        Checks.due("27 is not below 27", hut.count(14), 0);
        hut.undo();
        hut.set(3, 28);
        hut.end(1);
        Checks.due("27 is below 28", hut.count(14), 1);
    }

    /** 3 loaves that are 3 days old, and 4 that are 2 days old, on the day 3. */
    private static HutLoaves withTwoAges(int freshDays) {
        HutLoaves hut = Checks.withMules(2);
        hut.set(2, freshDays);
        hut.send(0, 3);
        hut.end(1);
        hut.send(1, 4);
        hut.end(2);
        Checks.due("loaves(3)", hut.loaves(3), 3);
        Checks.due("loaves(2)", hut.loaves(2), 4);
        return hut;
    }

    private static void ages(HutLoaves hut, int four, int three) {
        Checks.due("loaves(4)", hut.loaves(4), four);
        Checks.due("loaves(3)", hut.loaves(3), three);
        Checks.due("count(7)", hut.count(7), four + three);
    }

    private static void oldestFreshOnesFirst() {
        HutLoaves hut = withTwoAges(3);
        hut.group(4, 0, 1);
        Checks.due("end(1)", hut.end(1), 2);
        ages(hut, 1, 4);
        Checks.due("pays 3 each", hut.count(5), 12);
        hut = withTwoAges(3);
        hut.group(11, 0, 1);
        Checks.due("end(1)", hut.end(1), 6);
        ages(hut, 0, 1);
        Checks.due("pays 3 each", hut.count(5), 33);
        hut = withTwoAges(2);
        hut.group(8, 0, 2);
        Checks.due("fresh ones, though stale ones are older", hut.end(1), 4);
        ages(hut, 3, 0);
        Checks.due("pays 3 each", hut.groupOf(0, 5), 24);
        Checks.due("was not hungry", hut.groupOf(0, 6), 0);
    }

    private static void soupFeeds() {
        HutLoaves hut = withTwoAges(2);
        hut.group(10, 0, 2);
        Checks.due("end(1)", hut.end(1), 6);
        ages(hut, 1, 0);
        Checks.due("pays 2 each", hut.groupOf(0, 5), 20);
        Checks.due("was not hungry", hut.groupOf(0, 6), 0);
        Checks.due("eaten", hut.count(11), 6);
        hut = withTwoAges(1);
        hut.group(6, 0, 2);
        Checks.due("soup alone, the oldest first", hut.end(1), 6);
        ages(hut, 0, 1);
        Checks.due("pays 2 each", hut.groupOf(0, 5), 12);
        hut = withTwoAges(3);
        hut.set(2, 0);
        hut.group(3, 0, 1);
        Checks.due("setting 2 counts on the day itself", hut.end(1), 4);
        ages(hut, 0, 3);
    }

    private static void soupDoesNotFeed() {
        HutLoaves hut = withTwoAges(2);
        hut.group(12, 0, 2);
        Checks.due("two loaves for one", hut.end(1), 6);
        ages(hut, 1, 0);
        Checks.due("pays 1 each", hut.groupOf(0, 5), 12);
        Checks.due("was hungry", hut.groupOf(0, 6), 1);
        Checks.due("one stale loaf is no soup", hut.end(1), 0);
        Checks.due("one loaf is left", hut.loaves(5), 1);
        Checks.due("hungry days", hut.count(15), 2);
        Checks.due("paid by groups", hut.count(16), 24);
        Checks.due("money", hut.count(5), 24);
    }

    private static void lowestGroupsFirst() {
        HutLoaves hut = withTwoAges(2);
        hut.group(1, 0, 9);
        hut.off(0);
        hut.group(7, 0, 2);
        hut.group(2, 0, 2);
        hut.group(1, 0, 2);
        Checks.due("end(1)", hut.end(1), 6);
        Checks.due("whole loaves", hut.groupOf(1, 5), 21);
        Checks.due("soup", hut.groupOf(2, 5), 4);
        Checks.due("nothing", hut.groupOf(3, 5), 1);
        Checks.due("hungry", hut.groupOf(3, 6), 1);
        Checks.due("not hungry", hut.groupOf(2, 6), 0);
        ages(hut, 1, 0);
    }

    private static void lowestMulesFirstAndRoom() {
        HutLoaves hut = Checks.withMules(4);
        hut.send(3, 25);
        hut.send(1, 30);
        hut.send(0, 1);
        hut.send(2, 30);
        hut.group(12, 1, 1);
        Checks.due("end(2)", hut.end(2), 6);
        Checks.due("lost", hut.count(13), 6);
        Checks.due("in the hut", hut.count(7), 74);
        Checks.due("lost ones count as brought", hut.muleOf(3, 6), 25);
        hut.end(2);
        hut.send(1, 6);
        hut.send(2, 2);
        hut.end(2);
        Checks.due("no more lost when it fits", hut.count(13), 8);
        Checks.due("the room is full", hut.count(7), 80);
        Checks.due("all stale ones", hut.loaves(6), 74);
        Checks.due("fresh ones", hut.loaves(2), 6);
        Checks.due("thrown away", hut.count(12), 0);
    }

    private static void nights() {
        HutLoaves hut = Checks.withoutSnow();
        hut.group(2, 1, 2);
        hut.group(4, 0, 1);
        hut.group(6, 2, 1);
        hut.end(1);
        Checks.due("one is gone", hut.groupOf(1, 0), Checks.INVALID);
        Checks.due("two are booked", hut.count(1), 2);
        Checks.due("has paid nothing", hut.groupOf(0, 5), 0);
        Checks.due("is there", hut.groupOf(0, 4), 1);
        hut.end(1);
        Checks.due("paid once", hut.groupOf(0, 5), 2);
        Checks.due("is still there", hut.groupOf(0, 4), 1);
        Checks.due("is there, too", hut.groupOf(2, 4), 1);
        hut.end(1);
        Checks.due("all are gone", hut.count(1), 0);
        Checks.due("all paid", hut.count(16), 14);
        Checks.due("hungry days", hut.count(15), 4);
        Checks.due("groups so far", hut.count(2), 3);
    }

    private static void tooOldInTheHut() {
        HutLoaves hut = Checks.withMules(1);
        hut.send(0, 9);
        hut.end(19);
        Checks.due("loaves(19)", hut.loaves(19), 9);
        hut.end(1);
        Checks.due("loaves(20)", hut.loaves(20), 9);
        Checks.due("thrown away", hut.count(12), 0);
        hut.group(3, 0, 1);
        Checks.due("eaten at 20 days", hut.end(1), 4);
        Checks.due("in the hut", hut.count(7), 0);
        Checks.due("thrown away", hut.count(12), 5);
        Checks.due("lost", hut.count(13), 0);
        Checks.due("soup was enough", hut.count(15), 0);
    }

    /** The mule is held by snow for so long that its loaves come with the age of 20 or 21 days. */
    private static HutLoaves heldBySnow(int days) {
        HutLoaves hut = Checks.withMules(1);
        hut.end(6);
        hut.send(0, 5);
        hut.set(3, 90);
        hut.end(days);
        Checks.due("one day of no snow", hut.muleOf(0, 3), 1);
        hut.set(3, 0);
        hut.group(2, 0, 1);
        return hut;
    }

    private static void twentyDaysOldWhenTheyCome() {
        HutLoaves hut = heldBySnow(20);
        Checks.due("end(1)", hut.end(1), 2);
        Checks.due("fed with soup", hut.count(16), 4);
        Checks.due("thrown away then", hut.count(12), 3);
        Checks.due("in the hut", hut.count(7), 0);
        Checks.due("brought", hut.muleOf(0, 6), 5);
        Checks.due("lost", hut.count(13), 0);
    }

    private static void tooOldWhenTheyCome() {
        HutLoaves hut = heldBySnow(21);
        Checks.due("end(1)", hut.end(1), 0);
        Checks.due("hungry", hut.count(16), 2);
        Checks.due("thrown away at once", hut.count(12), 5);
        Checks.due("in the hut", hut.count(7), 0);
        Checks.due("brought", hut.muleOf(0, 6), 5);
        Checks.due("brings no more", hut.muleOf(0, 4), 0);
        Checks.due("lost", hut.count(13), 0);
        Checks.due("on its way down", hut.muleOf(0, 2), 2);
    }

    private static void thrownAwayAtOnceAfterOthers() {
        HutLoaves hut = Checks.withMules(2);
        hut.send(0, 3);
        hut.end(6);
        hut.send(1, 5);
        hut.set(3, 90);
        hut.end(21);
        Checks.due("thrown away in the hut", hut.count(12), 3);
        hut.set(3, 0);
        hut.end(1);
        Checks.due("and at once", hut.count(12), 8);
        Checks.due("in the hut", hut.count(7), 0);
    }
}
