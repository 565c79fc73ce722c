/** Promise 8, and what the terms say of a day that ends: a test for each sentence. */
public final class DayEdgesTest {
    public static void main(String[] args) {
        Edges.run(DayEdgesTest.class);
    }

    /**
     * Without snow, on the day 'age': so many loaves that are 'age' days old (2 to 20), so many that
     * are younger by 'younger' days; mules of load 30 and strength 9.
     */
    private static HutLoaves withLoaves(int age, int older, int younger, int many) {
        HutLoaves hut = Checks.withMules(4);
        hut.send(0, older);
        if (younger > 0) {
            hut.end(younger);
            hut.send(1, many);
        }
        hut.end(age - younger);
        Checks.due("loaves of the age " + age, hut.loaves(age), older);
        Checks.due("all loaves", hut.count(7), older + (younger > 0 ? many : 0));
        return hut;
    }

    private static void day(HutLoaves hut, String name, int eaten, int left, int paid, int hungry) {
        int paidBefore = hut.count(16);
        int hungryBefore = hut.count(15);
        Checks.due("loaves eaten: " + name, hut.end(1), eaten);
        Checks.due("loaves left: " + name, hut.count(7), left);
        Checks.due("paid: " + name, hut.count(16) - paidBefore, paid);
        Checks.due("hungry: " + name, hut.count(15) - hungryBefore, hungry);
    }

    // ---- the order, and snow

    @Edge(promise = 8, says = "When a day ends, this happens in this order:")
    static void theNumberChangesAheadOfTheMules() {
        HutLoaves hut = Checks.withMules(1);
        hut.send(0, 1);
        hut.set(3, 50);
        hut.end(1);
        Checks.due("1 would be snow, 84 is none", hut.muleOf(0, 3), 1);
        hut.end(1);
        Checks.due("84 would be none, 27 is snow", hut.muleOf(0, 3), 1);
    }

    @Edge(promise = 8, says = "When a day ends, this happens in this order:")
    static void mulesComeAheadOfTheMeal() {
        HutLoaves hut = Checks.withMules(1);
        hut.send(0, 6);
        hut.group(12, 1, 1);
        hut.end(1);
        day(hut, "of those that come on the day", 6, 0, 36, 0);
    }

    @Edge(promise = 8, says = "When a day ends, this happens in this order:")
    static void roomIsLookedAtAheadOfTheMeal() {
        HutLoaves hut = Checks.withMules(4);
        hut.send(0, 30);
        hut.send(1, 30);
        hut.send(2, 20);
        hut.end(2);
        hut.send(3, 5);
        hut.end(1);
        hut.group(10, 0, 1);
        day(hut, "a full hut, and five that come", 5, 75, 30, 0);
        Checks.due("they are lost, though there is room after the meal", hut.count(13), 5);
    }

    @Edge(promise = 8, says = "When a day ends, this happens in this order:")
    static void mealIsAheadOfGrowingOlder() {
        HutLoaves hut = withLoaves(3, 4, 0, 0);
        hut.group(4, 0, 1);
        day(hut, "of the age 3, not stale until after it", 2, 2, 12, 0);
        hut = withLoaves(20, 4, 0, 0);
        hut.set(2, 15);
        hut.group(4, 0, 1);
        day(hut, "of the age 20, not thrown away until after it", 4, 0, 8, 0);
        Checks.due("none was thrown away", hut.count(12), 0);
    }

    @Edge(promise = 8, says = "When a day ends, this happens in this order:")
    static void groupsGoAfterTheMeal() {
        HutLoaves hut = Checks.withoutSnow();
        hut.group(12, 0, 1);
        hut.end(1);
        Checks.due("it paid on its last day", hut.count(16), 12);
        Checks.due("and is gone", hut.count(1), 0);
    }

    @Edge(promise = 8, says = "There is a number x (1 at first).")
    static void xAtFirst() {
        HutLoaves hut = new HutLoaves();
        Checks.due("x", hut.count(4), 1);
        hut.mule(1, 1);
        hut.group(1, 0, 1);
        hut.set(3, 90);
        hut.would(60, 0);
        hut.hungry();
        Checks.due("x while no day ends", hut.count(4), 1);
        hut.end(1);
        Checks.due("x after the first day", hut.count(4), 2084);
        hut.undo();
        Checks.due("x after undo", hut.count(4), 1);
    }

    @Edge(promise = 8, says = "It becomes (x * 421 + 1663) modulo 10000;")
    static void xGoesOn() {
        HutLoaves hut = new HutLoaves();
        int[] first = {2084, 9027, 2030, 6293, 1016, 9399};
        for (int x : first) {
            hut.end(1);
            Checks.due("x", hut.count(4), x);
        }
        hut.end(30);
        int x = 1;
        for (int day = 0; day < 36; day++) {
            x = (x * 421 + 1663) % 10000;
        }
        Checks.due("x of the day 36", hut.count(4), x);
        HutLoaves last = Edges.onDay(9999);
        for (int day = 36; day < 9999; day++) {
            x = (x * 421 + 1663) % 10000;
        }
        Checks.due("x of the day 9999", last.count(4), x);
        Checks.due("which comes ahead of 1", (x * 421 + 1663) % 10000, 1);
    }

    /** Whether the day that ends next is one of snow with this setting. */
    private static void snow(HutLoaves hut, int setting, int want) {
        int before = hut.count(14);
        hut.set(3, setting);
        hut.end(1);
        Checks.due(hut.count(4) % 100 + " is snow with " + setting, hut.count(14) - before, want);
        hut.undo();
    }

    @Edge(promise = 8, says = "it is a day of snow if x modulo 100 is less than setting 3.")
    static void snowBelowTheSetting() {
        HutLoaves hut = new HutLoaves();
        snow(hut, 84, 0);
        snow(hut, 85, 1);
        snow(hut, 83, 0);
        snow(hut, 90, 1);
        snow(hut, 0, 0);
    }

    @Edge(promise = 8, says = "it is a day of snow if x modulo 100 is less than setting 3.")
    static void snowAtTheEnds() {
        HutLoaves hut = Edges.onDay(92);
        snow(hut, 0, 0);
        hut = Edges.onDay(92);
        snow(hut, 1, 1);
        hut = Edges.onDay(22);
        snow(hut, 90, 0);
        hut = Edges.onDay(35);
        snow(hut, 90, 1);
        hut = Edges.onDay(35);
        snow(hut, 89, 0);
        hut = new HutLoaves();
        hut.set(3, 0);
        hut.end(60);
        hut.end(60);
        Checks.due("days of snow with 0", hut.count(14), 0);
        hut = new HutLoaves();
        hut.set(3, 90);
        hut.end(60);
        hut.end(40);
        Checks.due("90 of 100 days with 90", hut.count(14), 90);
    }

    // ---- mules

    @Edge(promise = 8, says = "Mules on their way come on, if it is no day of snow, those with the lowest numbers first;")
    static void lowestMulesComeFirst() {
        for (int first = 0; first < 2; first++) {
            HutLoaves hut = Checks.withMules(4);
            hut.send(2, 30);
            hut.send(3, 30);
            Checks.endDay(hut, false);
            Checks.endDay(hut, false);
            hut.send(first, 15);
            Checks.endDay(hut, true);
            hut.send(1 - first, 15);
            hut.set(3, 0);
            hut.end(2);
            Checks.due("those of the mule 0", hut.loaves(first == 0 ? 3 : 2), 15);
            Checks.due("those of the mule 1", hut.loaves(first == 0 ? 2 : 3), 5);
            Checks.due("lost", hut.count(13), 10);
        }
    }

    @Edge(promise = 8, says = "Mules on their way come on, if it is no day of snow, those with the lowest numbers first;")
    static void mulesAtHomeAndAwayInOneDay() {
        HutLoaves hut = Checks.withMules(4);
        hut.send(3, 1);
        hut.end(1);
        hut.send(2, 2);
        hut.end(1);
        hut.send(1, 3);
        hut.end(1);
        Edges.place(hut, 0, 0, 0);
        Edges.place(hut, 1, 1, 1);
        Edges.place(hut, 2, 2, 2);
        Edges.place(hut, 3, 2, 1);
        hut.set(3, 90);
        hut.end(2);
        Checks.due("one day of snow, and one of none", hut.count(14), 1);
        Edges.place(hut, 0, 0, 0);
        Edges.place(hut, 1, 2, 2);
        Edges.place(hut, 2, 2, 1);
        Edges.place(hut, 3, 0, 0);
    }

    @Edge(promise = 8, says = "lame ones come on in any case.")
    static void lameOnesComeOnInSnow() {
        HutLoaves hut = Checks.withMules(0);
        hut.mule(5, 1);
        hut.mule(5, 9);
        hut.send(0, 1);
        hut.end(4);
        Edges.place(hut, 0, 3, 5);
        hut.end(2);
        hut.send(1, 1);
        Checks.endDay(hut, true);
        Edges.place(hut, 0, 3, 2);
        Edges.place(hut, 1, 1, 2);
        Checks.endDay(hut, true);
        Edges.place(hut, 0, 3, 1);
        Checks.endDay(hut, true);
        Edges.place(hut, 0, 0, 0);
        Edges.place(hut, 1, 1, 2);
    }

    // ---- the meal

    @Edge(promise = 8, says = "The groups that are there on this day eat,")
    static void onlyGroupsThatAreThereEat() {
        HutLoaves hut = withLoaves(2, 30, 0, 0);
        hut.set(2, 15);
        hut.group(2, 1, 2);
        day(hut, "a day ahead", 0, 30, 0, 0);
        day(hut, "the first day", 1, 29, 6, 0);
        day(hut, "the last day", 1, 28, 6, 0);
        day(hut, "a day after", 0, 28, 0, 0);
    }

    @Edge(promise = 8, says = "those with the lowest numbers first:")
    static void lowestGroupsEatFirst() {
        HutLoaves hut = withLoaves(2, 3, 0, 0);
        hut.group(4, 1, 1);
        hut.group(4, 0, 2);
        hut.group(4, 0, 2);
        day(hut, "two of the three", 3, 0, 16, 1);
        Checks.due("the lower one is fed", hut.groupOf(1, 5), 12);
        Checks.due("the other one gets one loaf", hut.groupOf(2, 5), 4);
        hut = withLoaves(2, 2, 0, 0);
        hut.group(4, 1, 1);
        hut.group(4, 0, 1);
        hut.off(0);
        hut.group(4, 0, 2);
        day(hut, "when a lower one is off", 2, 0, 16, 1);
        Checks.due("the higher one is hungry", hut.groupOf(2, 6), 1);
    }

    @Edge(promise = 8, says = "loaves that are not stale, the oldest first;")
    static void oldestFreshOnesFirst() {
        HutLoaves hut = withLoaves(4, 5, 2, 6);
        hut.set(2, 4);
        hut.group(10, 0, 1);
        day(hut, "all of the older ones, just not stale", 5, 6, 30, 0);
        Checks.due("the younger ones are left", hut.loaves(3), 6);
        hut = withLoaves(4, 5, 2, 6);
        hut.set(2, 4);
        hut.group(12, 0, 1);
        day(hut, "one younger one, too", 6, 5, 36, 0);
        Checks.due("the younger ones are left", hut.loaves(3), 5);
        hut = withLoaves(4, 5, 2, 6);
        hut.set(2, 3);
        hut.group(12, 0, 1);
        day(hut, "the younger ones, as the older ones are stale", 6, 5, 36, 0);
        Checks.due("the older ones are left", hut.loaves(5), 5);
    }

    @Edge(promise = 8, says = "if they are not enough, stale ones, the oldest first,")
    static void oldestStaleOnesFirst() {
        HutLoaves hut = withLoaves(4, 5, 2, 6);
        hut.set(2, 1);
        hut.group(4, 0, 1);
        day(hut, "four of the oldest", 4, 7, 8, 0);
        Checks.due("the oldest", hut.loaves(5), 1);
        Checks.due("the younger ones", hut.loaves(3), 6);
        hut = withLoaves(4, 5, 2, 6);
        hut.set(2, 1);
        hut.group(6, 0, 1);
        day(hut, "all of the oldest, and one more", 6, 5, 12, 0);
        Checks.due("the oldest", hut.loaves(5), 0);
        Checks.due("the younger ones", hut.loaves(3), 5);
    }

    @Edge(promise = 8, says = "two for each loaf that is lacking (soup),")
    static void twoStaleOnesForOne() {
        HutLoaves hut = withLoaves(4, 30, 2, 1);
        hut.set(2, 2);
        hut.group(2, 0, 1);
        day(hut, "none is lacking", 1, 30, 6, 0);
        hut = withLoaves(4, 30, 2, 1);
        hut.set(2, 2);
        hut.group(4, 0, 1);
        day(hut, "one is lacking", 3, 28, 8, 0);
        hut = withLoaves(4, 30, 2, 1);
        hut.set(2, 2);
        hut.group(12, 0, 1);
        day(hut, "five are lacking", 11, 20, 24, 0);
        hut = withLoaves(4, 30, 0, 0);
        hut.group(12, 0, 1);
        day(hut, "all six are lacking", 12, 18, 24, 0);
    }

    @Edge(promise = 8, says = "as far as there are two.")
    static void soupAsFarAsThereAreTwo() {
        int[] eaten = {0, 2, 2, 4};
        int[] paid = {4, 4, 4, 8};
        int[] hungry = {1, 1, 1, 0};
        for (int stale = 1; stale <= 4; stale++) {
            HutLoaves hut = withLoaves(4, stale, 0, 0);
            hut.group(4, 0, 1);
            day(hut, stale + " stale ones for two", eaten[stale - 1], stale - eaten[stale - 1], paid[stale - 1],
                hungry[stale - 1]);
        }
        HutLoaves hut = withLoaves(4, 1, 2, 1);
        hut.set(2, 1);
        hut.group(2, 0, 1);
        day(hut, "one of each of two ages", 2, 0, 4, 0);
    }

    @Edge(promise = 8, says = "A group pays 3 for each person on a day on which it is fed with whole loaves alone,")
    static void threeForWholeLoaves() {
        HutLoaves hut = withLoaves(2, 30, 0, 0);
        hut.group(1, 0, 2);
        hut.group(12, 0, 2);
        day(hut, "13 persons", 7, 23, 39, 0);
        Checks.due("the one", hut.groupOf(0, 5), 3);
        Checks.due("the twelve", hut.groupOf(1, 5), 36);
        Checks.due("the money", hut.count(5), 39);
    }

    @Edge(promise = 8, says = "2 if it has any soup,")
    static void twoForAnySoup() {
        HutLoaves hut = withLoaves(4, 2, 2, 5);
        hut.set(2, 3);
        hut.group(12, 0, 1);
        day(hut, "five whole ones, and soup for one", 7, 0, 24, 0);
        hut = withLoaves(4, 2, 2, 5);
        hut.set(2, 4);
        hut.group(12, 0, 1);
        day(hut, "six whole ones, as none is stale", 6, 1, 36, 0);
        hut = withLoaves(4, 12, 0, 0);
        hut.group(12, 0, 1);
        day(hut, "soup alone", 12, 0, 24, 0);
    }

    @Edge(promise = 8, says = "and 1 if it does not get all that it wants, soup or not (it is hungry).")
    static void oneForHunger() {
        HutLoaves hut = Checks.withoutSnow();
        hut.group(12, 0, 9);
        day(hut, "nothing", 0, 0, 12, 1);
        Checks.due("hungry days of the group", hut.groupOf(0, 6), 1);
        hut = withLoaves(2, 5, 0, 0);
        hut.group(12, 0, 9);
        day(hut, "all but one", 5, 0, 12, 1);
        hut = withLoaves(4, 11, 0, 0);
        hut.group(12, 0, 9);
        day(hut, "soup for all but one", 10, 1, 12, 1);
        hut = withLoaves(4, 3, 2, 4);
        hut.set(2, 2);
        hut.group(12, 0, 9);
        day(hut, "whole ones and soup for all but one", 6, 1, 12, 1);
        hut = withLoaves(4, 4, 2, 4);
        hut.set(2, 2);
        hut.group(12, 0, 9);
        day(hut, "whole ones and soup for all", 8, 0, 24, 0);
        Checks.due("no hungry day", hut.groupOf(0, 6), 0);
    }

    // ---- older, and over

    @Edge(promise = 8, says = "All loaves get a day older.")
    static void allGetOlder() {
        HutLoaves hut = withLoaves(19, 9, 17, 8);
        Checks.due("of 2 days", hut.loaves(2), 8);
        hut.end(1);
        Checks.due("of 20 days", hut.loaves(20), 9);
        Checks.due("of 3 days", hut.loaves(3), 8);
        Checks.due("no more of 19 days", hut.loaves(19), 0);
        Checks.due("no more of 2 days", hut.loaves(2), 0);
        hut = Checks.withMules(1);
        hut.send(0, 7);
        hut.end(1);
        hut.end(1);
        Checks.due("also on their way and on the day on which they come", hut.loaves(2), 7);
    }

    @Edge(promise = 8, says = "Loaves that are older than 20 days are thrown away.")
    static void thrownAwayAboveTwenty() {
        HutLoaves hut = withLoaves(20, 9, 1, 8);
        Checks.due("at 20 days they are there", hut.count(12), 0);
        day(hut, "those of 20 days", 0, 8, 0, 0);
        Checks.due("thrown away", hut.count(12), 9);
        day(hut, "those of 19 days a day later", 0, 0, 0, 0);
        Checks.due("thrown away", hut.count(12), 17);
        Checks.due("none is lost", hut.count(13), 0);
        day(hut, "none", 0, 0, 0, 0);
        Checks.due("thrown away", hut.count(12), 17);
    }

    @Edge(promise = 8, says = "Groups whose nights are over are gone.")
    static void goneAfterTheirNights() {
        for (int nights = 1; nights <= 9; nights++) {
            HutLoaves hut = Checks.withoutSnow();
            hut.group(2, 1, nights);
            hut.group(2, 0, nights);
            hut.end(nights);
            Checks.due("gone after " + nights, hut.groupOf(1, 0), Checks.INVALID);
            Checks.due("there on the last day", hut.groupOf(0, 4), 1);
            hut.end(1);
            Checks.due("gone a day later", hut.count(1), 0);
            Checks.due("each paid for " + nights, hut.count(16), 4 * nights);
        }
        HutLoaves hut = Checks.withoutSnow();
        for (int k = 0; k < 10; k++) {
            hut.group(1, 0, 1 + k % 2);
        }
        hut.end(1);
        Checks.due("every second one", hut.count(1), 5);
        Checks.due("the lowest of these", hut.number(0), 1);
        Checks.due("the highest of these", hut.number(4), 9);
        hut.end(1);
        Checks.due("all at once", hut.count(1), 0);
    }

    @Edge(promise = 8, says = "The day is 1 more.")
    static void theDayIsOneMore() {
        HutLoaves hut = new HutLoaves();
        for (int day = 1; day <= 70; day++) {
            hut.end(1);
            Checks.due("day", hut.count(3), day);
        }
        hut.set(3, 90);
        hut.end(60);
        Checks.due("days of snow count, too", hut.count(3), 130);
    }

    // ---- end

    @Edge(promise = 8, says = "Lets days end.")
    static void endLetsDaysEnd() {
        HutLoaves one = Checks.withMules(2);
        HutLoaves other = Checks.withMules(2);
        one.send(0, 20);
        other.send(0, 20);
        one.group(7, 1, 9);
        other.group(7, 1, 9);
        int eaten = 0;
        for (int day = 0; day < 60; day++) {
            eaten += other.end(1);
        }
        Checks.due("end(60)", one.end(60), eaten);
        for (int what = 0; what <= 17; what++) {
            Checks.due("count(" + what + ")", one.count(what), other.count(what));
        }
        Checks.due("the day", one.count(3), 60);
        Checks.due("one change", one.undo(), 3);
        Checks.due("the day", one.count(3), 0);
    }

    @Edge(promise = 8, says = "`days`: 1 to 60")
    static void argumentDaysOfEnd() {
        Edges.taken("end(days)", days -> new HutLoaves().end(days), 1, 60);
        Edges.outside("end(days)", days -> new HutLoaves().end(days), 1, 60);
        HutLoaves hut = new HutLoaves();
        hut.end(1);
        Checks.due("one day", hut.count(3), 1);
        hut.end(60);
        Checks.due("60 more", hut.count(3), 61);
    }

    @Edge(promise = 8, says = "Returns how many loaves are eaten in them (those of soup, too);")
    static void endReturnsTheEaten() {
        HutLoaves hut = withLoaves(3, 9, 0, 0);
        hut.group(4, 0, 9);
        Checks.due("two whole ones", hut.end(1), 2);
        Checks.due("four in soup", hut.end(1), 4);
        Checks.due("two in soup, as one is left", hut.end(1), 2);
        Checks.due("none", hut.end(1), 0);
        Checks.due("in all", hut.count(11), 8);
        hut = withLoaves(3, 9, 0, 0);
        hut.group(4, 0, 9);
        Checks.due("of all four days", hut.end(4), 8);
        Checks.due("of none, though there were some ahead", hut.end(60), 0);
    }

    @Edge(promise = 8, says = "INVALID_ARGUMENT if days is out of range;")
    static void endOutOfRange() {
        HutLoaves hut = new HutLoaves();
        Checks.due("end(0)", hut.end(0), Checks.INVALID);
        Checks.due("end(61)", hut.end(61), Checks.INVALID);
        Checks.due("end(-1)", hut.end(-1), Checks.INVALID);
        Checks.due("end(max)", hut.end(Integer.MAX_VALUE), Checks.INVALID);
        Checks.due("the day", hut.count(3), 0);
        Checks.due("x", hut.count(4), 1);
        Checks.due("states", hut.count(18), 0);
    }

    @Edge(promise = 8, says = "LIMIT_REACHED if the day would be above 9999.")
    static void endLimit() {
        HutLoaves hut = Edges.onDay(9939);
        Checks.due("to the day 9999", hut.end(60), 0);
        Checks.due("the day", hut.count(3), 9999);
        Checks.due("to the day 10000", hut.end(1), Checks.LIMIT);
        Checks.due("far above it", hut.end(60), Checks.LIMIT);
        hut.undo();
        hut.end(1);
        int x = hut.count(4);
        Checks.due("from 9940 to 10000", hut.end(60), Checks.LIMIT);
        Checks.due("the day", hut.count(3), 9940);
        Checks.due("x", hut.count(4), x);
        Checks.due("from 9940 to 9999", hut.end(59), 0);
        Checks.due("the day", hut.count(3), 9999);
    }
}
