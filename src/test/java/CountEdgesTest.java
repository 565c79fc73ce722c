/** Promise 20: a test for each number that count returns. */
public final class CountEdgesTest {
    public static void main(String[] args) {
        Edges.run(CountEdgesTest.class);
    }

    private static void due(HutLoaves hut, int what, int want) {
        Checks.due("count(" + what + ")", hut.count(what), want);
    }

    @Edge(promise = 20, says = "Returns a number.")
    static void everyNumberAtFirst() {
        int[] first = {0, 0, 0, 0, 1, 0, 0, 0, 0, 0, 0, 0, 0, 0, 0, 0, 0, 0, 0, 0, 2, 100, 3, 10};
        for (int what = 0; what < first.length; what++) {
            due(new HutLoaves(), what, first[what]);
        }
    }

    @Edge(promise = 20, says = "`what`: 0: mules;")
    static void mules() {
        HutLoaves hut = new HutLoaves();
        for (int many = 1; many <= 4; many++) {
            hut.mule(1, 1);
            due(hut, 0, many);
        }
        hut.mule(1, 1);
        due(hut, 0, 4);
        hut.send(0, 1);
        due(hut, 0, 4);
    }

    @Edge(promise = 20, says = "1: groups that are booked;")
    static void groupsThatAreBooked() {
        HutLoaves hut = new HutLoaves();
        for (int many = 1; many <= 10; many++) {
            hut.group(1, 60, 1);
            due(hut, 1, many);
        }
        hut.group(1, 60, 1);
        due(hut, 1, 10);
        hut.off(0);
        due(hut, 1, 9);
        hut.end(60);
        due(hut, 1, 9);
        hut.end(1);
        due(hut, 1, 0);
    }

    @Edge(promise = 20, says = "2: groups so far;")
    static void groupsSoFar() {
        HutLoaves hut = new HutLoaves();
        hut.group(1, 0, 1);
        due(hut, 2, 1);
        hut.group(0, 0, 1);
        due(hut, 2, 1);
        hut.off(0);
        due(hut, 2, 1);
        hut.group(1, 0, 1);
        due(hut, 2, 2);
        hut.end(1);
        due(hut, 2, 2);
        hut.group(1, 0, 1);
        due(hut, 2, 3);
        hut.undo();
        due(hut, 2, 2);
    }

    @Edge(promise = 20, says = "3: the day;")
    static void theDay() {
        HutLoaves hut = new HutLoaves();
        hut.end(1);
        due(hut, 3, 1);
        hut.end(60);
        due(hut, 3, 61);
        due(Edges.onDay(9999), 3, 9999);
    }

    @Edge(promise = 20, says = "Days are counted from 0.")
    static void daysFromZero() {
        HutLoaves hut = new HutLoaves();
        due(hut, 3, 0);
        hut.group(1, 0, 1);
        Checks.due("the day on which it comes", hut.groupOf(0, 1), 0);
    }

    @Edge(promise = 20, says = "4: x;")
    static void theNumberX() {
        HutLoaves hut = new HutLoaves();
        hut.end(1);
        due(hut, 4, 2084);
        hut.end(1);
        due(hut, 4, 9027);
        hut.set(3, 90);
        hut.end(1);
        due(hut, 4, 2030);
        due(Edges.onDay(100), 4, (421 * Edges.onDay(99).count(4) + 1663) % 10000);
    }

    @Edge(promise = 20, says = "5: the money;")
    static void theMoney() {
        HutLoaves hut = Checks.withMules(1);
        hut.send(0, 1);
        due(hut, 5, 0);
        hut.group(1, 0, 1);
        hut.end(1);
        due(hut, 5, 1);
        hut.pay(1);
        due(hut, 5, 0);
    }

    @Edge(promise = 20, says = "6: the debt;")
    static void theDebt() {
        HutLoaves hut = Checks.withMules(2);
        due(hut, 6, 0);
        hut.set(0, 9);
        hut.send(0, 30);
        due(hut, 6, 270);
        hut.group(12, 0, 1);
        hut.end(1);
        due(hut, 6, 270);
        hut.pay(12);
        due(hut, 6, 258);
    }

    @Edge(promise = 20, says = "7: loaves of the hut;")
    static void loavesOfTheHut() {
        HutLoaves hut = Checks.withMules(3);
        for (int k = 0; k < 3; k++) {
            hut.send(k, 30);
        }
        hut.end(1);
        due(hut, 7, 0);
        hut.end(1);
        due(hut, 7, 80);
        hut.group(1, 0, 1);
        hut.end(1);
        due(hut, 7, 79);
        hut.end(18);
        due(hut, 7, 0);
    }

    @Edge(promise = 20, says = "8: stale ones of these;")
    static void staleOnes() {
        HutLoaves hut = Checks.withMules(2);
        hut.send(0, 9);
        hut.end(1);
        hut.send(1, 8);
        int[] stale = {0, 0, 0, 9, 17};
        for (int day = 1; day <= 5; day++) {
            due(hut, 8, stale[day - 1]);
            hut.end(1);
        }
        hut.set(2, 15);
        due(hut, 8, 0);
        hut.end(14);
        due(hut, 8, 17);
        hut.end(1);
        due(hut, 8, 8);
        hut.end(1);
        due(hut, 8, 0);
    }

    @Edge(promise = 20, says = "9: loaves on their way up;")
    static void loavesOnTheirWayUp() {
        HutLoaves hut = Checks.withMules(4);
        for (int k = 0; k < 4; k++) {
            hut.send(k, 30);
            due(hut, 9, 30 * (k + 1));
        }
        hut.end(1);
        due(hut, 9, 120);
        hut.end(1);
        due(hut, 9, 0);
        hut.end(2);
        hut.send(0, 1);
        due(hut, 9, 1);
    }

    @Edge(promise = 20, says = "10: loaves baked so far;")
    static void loavesBaked() {
        HutLoaves hut = Checks.withMules(2);
        hut.send(0, 1);
        due(hut, 10, 1);
        hut.send(1, 30);
        due(hut, 10, 31);
        hut.send(1, 30);
        due(hut, 10, 31);
        hut.end(30);
        due(hut, 10, 31);
    }

    @Edge(promise = 20, says = "11: loaves eaten so far;")
    static void loavesEaten() {
        HutLoaves hut = Checks.withMules(1);
        hut.send(0, 7);
        hut.group(2, 2, 9);
        hut.end(2);
        due(hut, 11, 0);
        hut.end(1);
        due(hut, 11, 1);
        hut.end(1);
        due(hut, 11, 2);
        hut.end(1);
        due(hut, 11, 4);
        hut.end(9);
        due(hut, 11, 6);
    }

    @Edge(promise = 20, says = "12: loaves thrown away so far;")
    static void loavesThrownAway() {
        HutLoaves hut = Checks.withMules(2);
        hut.send(0, 7);
        hut.end(5);
        hut.send(1, 5);
        hut.end(15);
        due(hut, 12, 0);
        hut.end(1);
        due(hut, 12, 7);
        hut.end(4);
        due(hut, 12, 7);
        hut.end(1);
        due(hut, 12, 12);
        hut = Edges.onDay(65);
        hut.set(3, 0);
        hut.mule(5, 9);
        hut.mule(5, 9);
        hut.send(1, 3);
        hut.end(6);
        hut.set(3, 90);
        hut.send(0, 5);
        hut.end(21);
        due(hut, 12, 3);
        hut.set(3, 0);
        hut.end(1);
        due(hut, 12, 8);
    }

    @Edge(promise = 20, says = "13: loaves lost for want of room so far;")
    static void loavesLost() {
        HutLoaves hut = Checks.withMules(4);
        hut.send(0, 30);
        hut.send(1, 30);
        hut.send(2, 20);
        hut.end(2);
        due(hut, 13, 0);
        hut.send(3, 30);
        hut.end(2);
        due(hut, 13, 30);
        hut.send(2, 1);
        hut.end(2);
        due(hut, 13, 31);
        hut.end(30);
        due(hut, 13, 31);
    }

    @Edge(promise = 20, says = "14: days of snow so far;")
    static void daysOfSnow() {
        HutLoaves hut = new HutLoaves();
        hut.set(3, 90);
        int[] snow = {1, 2, 3, 3, 4, 4, 5};
        for (int want : snow) {
            hut.end(1);
            due(hut, 14, want);
        }
        hut.set(3, 0);
        hut.end(60);
        due(hut, 14, 5);
    }

    @Edge(promise = 20, says = "15: hungry days of groups so far;")
    static void hungryDays() {
        HutLoaves hut = Checks.withMules(1);
        hut.group(12, 0, 2);
        hut.group(1, 0, 1);
        hut.end(1);
        due(hut, 15, 2);
        hut.send(0, 30);
        hut.end(1);
        due(hut, 15, 3);
        hut.group(12, 0, 2);
        hut.end(2);
        due(hut, 15, 3);
        hut.end(60);
        due(hut, 15, 3);
    }

    @Edge(promise = 20, says = "16: what groups paid so far;")
    static void whatGroupsPaid() {
        HutLoaves hut = Checks.withMules(1);
        hut.send(0, 1);
        hut.group(12, 0, 1);
        hut.group(1, 0, 2);
        hut.end(1);
        due(hut, 16, 13);
        hut.pay(1);
        due(hut, 16, 13);
        hut.end(1);
        due(hut, 16, 16);
        hut.end(60);
        due(hut, 16, 16);
    }

    @Edge(promise = 20, says = "17: what was paid to the baker so far;")
    static void whatWasPaidToTheBaker() {
        HutLoaves hut = Checks.withMules(1);
        hut.send(0, 30);
        hut.group(12, 0, 1);
        hut.end(1);
        due(hut, 17, 0);
        hut.pay(1);
        due(hut, 17, 1);
        hut.pay(12);
        due(hut, 17, 1);
        hut.pay(11);
        due(hut, 17, 12);
    }

    @Edge(promise = 20, says = "18: states in the history;")
    static void statesInTheHistory() {
        HutLoaves hut = new HutLoaves();
        for (int states = 1; states <= 4; states++) {
            hut.end(1);
            due(hut, 18, states);
        }
        hut.end(1);
        due(hut, 18, 4);
        for (int states = 3; states >= 0; states--) {
            hut.undo();
            due(hut, 18, states);
        }
        hut.undo();
        due(hut, 18, 0);
    }

    @Edge(promise = 20, says = "19: the length of the text;")
    static void lengthOfTheText() {
        HutLoaves hut = new HutLoaves();
        for (int length = 1; length <= 60; length++) {
            hut.type('d');
            due(hut, 19, length);
        }
        hut.type('d');
        due(hut, 19, 60);
        hut.clearText();
        due(hut, 19, 0);
    }

    @Edge(promise = 20, says = "20 to 23: the settings 0 to 3")
    static void settings() {
        int[] lowest = {1, 10, 0, 0};
        int[] highest = {9, 500, 15, 90};
        HutLoaves hut = new HutLoaves();
        for (int setting = 0; setting <= 3; setting++) {
            hut.set(setting, lowest[setting]);
        }
        for (int setting = 0; setting <= 3; setting++) {
            due(hut, 20 + setting, lowest[setting]);
        }
        for (int setting = 0; setting <= 3; setting++) {
            hut.set(setting, highest[setting]);
        }
        for (int setting = 0; setting <= 3; setting++) {
            due(hut, 20 + setting, highest[setting]);
        }
    }

    @Edge(promise = 20, says = "Returns the number;")
    static void accountsAddUp() {
        HutLoaves hut = Checks.withMules(4);
        hut.set(3, 30);
        hut.group(7, 1, 9);
        hut.group(12, 4, 9);
        for (int day = 0; day < 12; day++) {
            hut.send(hut.next(0), 25);
            hut.end(1);
            hut.pay(Math.min(40, Math.min(hut.count(5), hut.count(6))));
            Checks.due("baked", hut.count(10),
                hut.count(7) + hut.count(9) + hut.count(11) + hut.count(12) + hut.count(13));
            Checks.due("money", hut.count(5), hut.count(16) - hut.count(17));
            Checks.due("debt", hut.count(6), hut.count(10) - hut.count(17));
        }
    }

    @Edge(promise = 20, says = "INVALID_ARGUMENT if what is out of range.")
    static void countOutOfRange() {
        HutLoaves hut = Checks.withMules(1);
        Edges.taken("count(what)", hut::count, 0, 23);
        Edges.outside("count(what)", hut::count, 0, 23);
    }
}
