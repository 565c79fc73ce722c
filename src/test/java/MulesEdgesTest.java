/** Promises 2 to 5, and what the terms say of mules, loaves and the baker: a test for each sentence. */
public final class MulesEdgesTest {
    private static final int[] NO_SUCH_MULES = {-1, 1, 2, 3, 4, 256, 65536, Integer.MIN_VALUE, Integer.MAX_VALUE};

    public static void main(String[] args) {
        Edges.run(MulesEdgesTest.class);
    }

    // ---- mule

    @Edge(promise = 2, says = "There are at most 4 mules,")
    static void atMostFourMules() {
        HutLoaves hut = new HutLoaves();
        for (int k = 0; k < 4; k++) {
            Checks.due("mule(1, 1)", hut.mule(1, 1), k);
        }
        Checks.due("a fifth", hut.mule(1, 1), Checks.LIMIT);
        Checks.due("mules", hut.count(0), 4);
        Checks.due("load of a fifth", hut.muleOf(4, 0), Checks.INVALID);
    }

    @Edge(promise = 2, says = "numbered from 0 in the order in which they came,")
    static void mulesAreNumberedFromZero() {
        HutLoaves hut = new HutLoaves();
        for (int k = 0; k < 4; k++) {
            Checks.due("mule", hut.mule(20 - k, 1 + k), k);
        }
        for (int k = 0; k < 4; k++) {
            Checks.due("load of the mule " + k, hut.muleOf(k, 0), 20 - k);
            Checks.due("strength of the mule " + k, hut.muleOf(k, 1), 1 + k);
        }
    }

    @Edge(promise = 2, says = "each with a load (1 to 30 loaves)")
    static void loadsOfMules() {
        HutLoaves hut = new HutLoaves();
        Checks.due("mule(0, 5)", hut.mule(0, 5), Checks.INVALID);
        Checks.due("mule(31, 5)", hut.mule(31, 5), Checks.INVALID);
        Checks.due("mule(1, 5)", hut.mule(1, 5), 0);
        Checks.due("mule(30, 5)", hut.mule(30, 5), 1);
        Checks.due("the least load", hut.muleOf(0, 0), 1);
        Checks.due("the greatest load", hut.muleOf(1, 0), 30);
        Checks.due("the least carries one loaf", hut.why(0, 1), 0);
        Checks.due("and no second", hut.why(0, 2), 2);
        Checks.due("the greatest carries 30", hut.why(1, 30), 0);
    }

    @Edge(promise = 2, says = "and a strength (1 to 9).")
    static void strengthsOfMules() {
        HutLoaves hut = new HutLoaves();
        Checks.due("mule(5, 0)", hut.mule(5, 0), Checks.INVALID);
        Checks.due("mule(5, 10)", hut.mule(5, 10), Checks.INVALID);
        Checks.due("mule(5, 1)", hut.mule(5, 1), 0);
        Checks.due("mule(5, 9)", hut.mule(5, 9), 1);
        Checks.due("the least strength", hut.muleOf(0, 1), 1);
        Checks.due("the greatest strength", hut.muleOf(1, 1), 9);
    }

    @Edge(promise = 2, says = "Adds a mule.")
    static void muleAddsOne() {
        HutLoaves hut = new HutLoaves();
        Checks.due("mules at first", hut.count(0), 0);
        Checks.due("load of none", hut.muleOf(0, 0), Checks.INVALID);
        hut.mule(7, 4);
        Checks.due("mules", hut.count(0), 1);
        Checks.due("its load", hut.muleOf(0, 0), 7);
        Checks.due("its strength", hut.muleOf(0, 1), 4);
        Checks.due("load of a second", hut.muleOf(1, 0), Checks.INVALID);
    }

    @Edge(promise = 2, says = "`load`: 1 to 30")
    static void argumentLoad() {
        Edges.taken("mule(load, 1)", load -> new HutLoaves().mule(load, 1), 1, 30);
        Edges.outside("mule(load, 1)", load -> new HutLoaves().mule(load, 1), 1, 30);
    }

    @Edge(promise = 2, says = "`strength`: 1 to 9")
    static void argumentStrength() {
        Edges.taken("mule(1, strength)", strength -> new HutLoaves().mule(1, strength), 1, 9);
        Edges.outside("mule(1, strength)", strength -> new HutLoaves().mule(1, strength), 1, 9);
    }

    @Edge(promise = 2, says = "Returns its number;")
    static void muleReturnsItsNumber() {
        HutLoaves hut = new HutLoaves();
        Checks.due("the first", hut.mule(30, 9), 0);
        Checks.due("one that is refused has no number", hut.mule(31, 9), Checks.INVALID);
        Checks.due("the second", hut.mule(30, 9), 1);
        hut.undo();
        Checks.due("the second, after undo", hut.mule(2, 2), 1);
        Checks.due("the third", hut.mule(1, 1), 2);
        Checks.due("the last", hut.mule(1, 1), 3);
    }

    @Edge(promise = 2, says = "INVALID_ARGUMENT if an argument is out of range;")
    static void muleOutOfRange() {
        HutLoaves hut = new HutLoaves();
        Checks.due("the first one", hut.mule(0, 1), Checks.INVALID);
        Checks.due("the second one", hut.mule(1, 0), Checks.INVALID);
        Checks.due("both, too small", hut.mule(0, 0), Checks.INVALID);
        Checks.due("both, too large", hut.mule(31, 10), Checks.INVALID);
        Checks.due("in each other's range", hut.mule(9, 30), Checks.INVALID);
        Checks.due("mules", hut.count(0), 0);
        Checks.due("states", hut.count(18), 0);
    }

    @Edge(promise = 2, says = "LIMIT_REACHED if there are 4.")
    static void muleLimit() {
        HutLoaves hut = Checks.withMules(4);
        Checks.due("a fifth", hut.mule(30, 9), Checks.LIMIT);
        hut.send(3, 1);
        Checks.due("a fifth while one is away", hut.mule(30, 9), Checks.LIMIT);
        hut.undo();
        hut.undo();
        Checks.due("a fourth, after the one was undone", hut.mule(30, 9), 3);
        Checks.due("a fifth", hut.mule(30, 9), Checks.LIMIT);
    }

    // ---- send

    @Edge(promise = 3, says = "A mule that is sent has a way of two days up,")
    static void twoDaysUp() {
        HutLoaves hut = Checks.withMules(1);
        hut.send(0, 5);
        Edges.place(hut, 0, 1, 2);
        hut.end(1);
        Edges.place(hut, 0, 1, 1);
        Checks.due("not there after one day", hut.muleOf(0, 6), 0);
        hut.end(1);
        Checks.due("there after two", hut.muleOf(0, 6), 5);
    }

    @Edge(promise = 3, says = "and one of two days down;")
    static void twoDaysDown() {
        HutLoaves hut = Checks.withMules(1);
        hut.send(0, 5);
        hut.end(2);
        Edges.place(hut, 0, 2, 2);
        hut.end(1);
        Edges.place(hut, 0, 2, 1);
        Checks.due("cannot go", hut.send(0, 5), Checks.IMPOSSIBLE);
        hut.end(1);
        Edges.place(hut, 0, 0, 0);
        Checks.due("can go again", hut.send(0, 5), 10);
    }

    @Edge(promise = 3, says = "with each day that ends and is no day of snow it has one day less to go.")
    static void snowHoldsMules() {
        HutLoaves hut = Checks.withMules(1);
        hut.send(0, 5);
        Checks.endDay(hut, true);
        Checks.endDay(hut, true);
        Edges.place(hut, 0, 1, 2);
        Checks.endDay(hut, false);
        Edges.place(hut, 0, 1, 1);
        Checks.endDay(hut, false);
        Edges.place(hut, 0, 2, 2);
        Checks.endDay(hut, true);
        Edges.place(hut, 0, 2, 2);
        Checks.endDay(hut, false);
        Edges.place(hut, 0, 2, 1);
        Checks.endDay(hut, true);
        Edges.place(hut, 0, 2, 1);
        Checks.endDay(hut, false);
        Edges.place(hut, 0, 0, 0);
    }

    @Edge(promise = 3, says = "When it comes to the hut the loaves are stored,")
    static void loavesAreStoredWhenTheyCome() {
        HutLoaves hut = Checks.withMules(1);
        hut.send(0, 30);
        hut.end(1);
        Checks.due("loaves, a day too early", hut.count(7), 0);
        Checks.due("on their way", hut.count(9), 30);
        hut.end(1);
        Checks.due("loaves", hut.count(7), 30);
        Checks.due("on their way", hut.count(9), 0);
        hut.end(1);
        Checks.due("they come once", hut.count(7), 30);
    }

    @Edge(promise = 3, says = "and it is on its way down at once (it makes no more way on that day).")
    static void onItsWayDownAtOnce() {
        HutLoaves hut = Checks.withMules(1);
        hut.send(0, 5);
        hut.end(2);
        Edges.place(hut, 0, 2, 2);
        hut = Checks.withMules(1);
        hut.send(0, 5);
        hut.end(3);
        Edges.place(hut, 0, 2, 1);
    }

    @Edge(promise = 3, says = "When it comes home, and has been sent as often as its strength since it rested, or more,"
        + " it is lame;")
    static void lameByItsStrength() {
        for (int strength = 1; strength <= 9; strength++) {
            HutLoaves hut = Checks.withMules(0);
            hut.mule(5, strength);
            for (int sent = 1; sent <= strength; sent++) {
                Checks.due("not lame before the way " + sent, hut.muleOf(0, 2), 0);
                hut.send(0, 1);
                hut.end(3);
                Edges.place(hut, 0, 2, 1);
                hut.end(1);
            }
            Edges.place(hut, 0, 3, 5);
            Checks.due("sent since it rested", hut.muleOf(0, 5), strength);
        }
    }

    @Edge(promise = 3, says = "with each day that ends from the next one on, of snow or not, it has one day less of 5 to"
        + " go, and is at home then, and has rested.")
    static void fiveDaysLame() {
        HutLoaves hut = Checks.withMules(0);
        hut.mule(5, 1);
        hut.send(0, 1);
        hut.end(4);
        Edges.place(hut, 0, 3, 5);
        for (int k = 0; k < 4; k++) {
            Checks.endDay(hut, k == 0 || k == 2);
            Edges.place(hut, 0, 3, 4 - k);
            Checks.due("has not rested", hut.muleOf(0, 5), 1);
            Checks.due("cannot go", hut.why(0, 1), 1);
        }
        Checks.endDay(hut, true);
        Edges.place(hut, 0, 0, 0);
        Checks.due("has rested", hut.muleOf(0, 5), 0);
        Checks.due("can go", hut.why(0, 1), 0);
        hut.set(3, 0);
        hut.end(1);
        Edges.place(hut, 0, 0, 0);
    }

    @Edge(promise = 3, says = "Loaves that are sent are baked on that day,")
    static void bakedOnTheDay() {
        HutLoaves hut = Checks.withMules(2);
        hut.send(0, 3);
        Checks.due("baked", hut.count(10), 3);
        hut.end(1);
        hut.send(1, 30);
        Checks.due("baked", hut.count(10), 33);
        hut.end(2);
        Checks.due("of the first day", hut.loaves(3), 3);
        Checks.due("of the second day", hut.loaves(2), 30);
    }

    @Edge(promise = 3, says = "for setting 0 of money each, on credit: the debt grows by that.")
    static void priceOfLoaves() {
        for (int price = 1; price <= 9; price++) {
            HutLoaves hut = Checks.withMules(2);
            hut.set(0, price);
            Checks.due("one loaf", hut.send(0, 1), price);
            Checks.due("and 30", hut.send(1, 30), 31 * price);
            Checks.due("debt", hut.count(6), 31 * price);
            Checks.due("money", hut.count(5), 0);
            hut.set(0, 10 - price);
            Checks.due("the debt is that of the day", hut.count(6), 31 * price);
        }
    }

    @Edge(promise = 3, says = "The debt may not be above setting 1.")
    static void debtUpToTheCredit() {
        HutLoaves hut = Checks.withMules(2);
        hut.set(1, 10);
        Checks.due("11 of 10", hut.send(0, 11), Checks.IMPOSSIBLE);
        Checks.due("10 of 10", hut.send(0, 10), 10);
        Checks.due("one more", hut.send(1, 1), Checks.IMPOSSIBLE);
        hut = Checks.withMules(3);
        hut.set(0, 9);
        hut.send(0, 30);
        hut.send(1, 25);
        hut.set(0, 1);
        Checks.due("501 of 500", hut.send(2, 6), Checks.IMPOSSIBLE);
        Checks.due("500 of 500", hut.send(2, 5), 500);
    }

    @Edge(promise = 8, says = "The hut has room for 80 loaves;")
    static void roomForEighty() {
        HutLoaves hut = Checks.withMules(3);
        hut.send(0, 30);
        hut.send(1, 30);
        hut.send(2, 20);
        hut.end(2);
        Checks.due("loaves", hut.count(7), 80);
        Checks.due("lost", hut.count(13), 0);
        Checks.due("of one age", hut.loaves(2), 80);
    }

    @Edge(promise = 8, says = "what a mule brings above that is lost.")
    static void lostAboveTheRoom() {
        HutLoaves hut = Checks.withMules(4);
        hut.send(0, 30);
        hut.send(1, 30);
        hut.send(2, 21);
        hut.end(1);
        hut.send(3, 30);
        hut.end(1);
        Checks.due("loaves", hut.count(7), 80);
        Checks.due("one is lost", hut.count(13), 1);
        hut.end(1);
        Checks.due("a full hut takes none", hut.count(7), 80);
        Checks.due("none is younger", hut.loaves(2), 0);
        Checks.due("all that come are lost", hut.count(13), 31);
        Checks.due("none is thrown away", hut.count(12), 0);
        Checks.due("they have come", hut.muleOf(3, 6), 30);
    }

    /** On the day 71; the 20 days from it on are days of snow with setting 3 at 90, the next one is none. */
    private static HutLoaves aheadOfLongSnow() {
        HutLoaves hut = Edges.onDay(71);
        hut.set(0, 1);
        hut.set(3, 90);
        for (int k = 0; k < 4; k++) {
            hut.mule(30, 9);
        }
        return hut;
    }

    @Edge(promise = 8, says = "Loaves that are older than 20 days when they come are thrown away at once.")
    static void tooOldWhenTheyCome() {
        HutLoaves hut = aheadOfLongSnow();
        hut.send(3, 5);
        hut.end(1);
        hut.send(2, 7);
        hut.end(20);
        Checks.due("days of snow and one of none", hut.muleOf(3, 3), 1);
        hut.set(3, 0);
        hut.group(6, 0, 1);
        Checks.due("those of 20 days are eaten as soup", hut.end(1), 6);
        Checks.due("5 of 21 days at once, and one of 20 at the day's end", hut.count(12), 6);
        Checks.due("none is lost", hut.count(13), 0);
        Checks.due("all came", hut.muleOf(3, 6), 5);
        Checks.due("they are brought no more", hut.muleOf(3, 4), 0);
        hut = aheadOfLongSnow();
        hut.send(3, 5);
        hut.end(20);
        hut.send(0, 30);
        hut.send(1, 30);
        hut.send(2, 20);
        hut.set(3, 0);
        hut.end(2);
        Checks.due("also if the hut is full", hut.count(12), 5);
        Checks.due("and they are not lost", hut.count(13), 0);
        Checks.due("loaves", hut.count(7), 80);
    }

    @Edge(promise = 13, says = "The age of a loaf is the number of days since it was baked.")
    static void ageByDaysSinceBaked() {
        HutLoaves hut = Checks.withMules(1);
        hut.send(0, 4);
        Checks.endDay(hut, true);
        Checks.endDay(hut, true);
        Checks.endDay(hut, true);
        Checks.endDay(hut, false);
        Checks.endDay(hut, false);
        Checks.due("days of snow count, too", hut.loaves(5), 4);
        hut.end(15);
        Checks.due("up to 20", hut.loaves(20), 4);
        Checks.due("all of them", hut.count(7), 4);
    }

    @Edge(promise = 20, says = "It is stale if its age is above setting 2.")
    static void staleAboveFreshDays() {
        for (int fresh = 2; fresh <= 15; fresh++) {
            HutLoaves hut = Checks.withMules(1);
            hut.set(2, fresh);
            hut.send(0, 4);
            hut.end(fresh);
            Checks.due("at the age " + fresh, hut.count(8), 0);
            hut.end(1);
            Checks.due("at the age " + (fresh + 1), hut.count(8), 4);
        }
        HutLoaves hut = Checks.withMules(1);
        hut.send(0, 4);
        hut.end(2);
        for (int fresh = 0; fresh <= 2; fresh++) {
            hut.set(2, fresh);
            Checks.due("at the age 2 with " + fresh, hut.count(8), fresh < 2 ? 4 : 0);
        }
    }

    @Edge(promise = 3, says = "Sends a mule with loaves.")
    static void sendSends() {
        HutLoaves hut = Checks.withMules(2);
        hut.send(1, 30);
        Edges.place(hut, 1, 1, 2);
        Checks.due("its loaves", hut.muleOf(1, 4), 30);
        Checks.due("sent", hut.muleOf(1, 5), 1);
        Edges.place(hut, 0, 0, 0);
        Checks.due("no loaves of the other one", hut.muleOf(0, 4), 0);
    }

    @Edge(promise = 3, says = "`mule`: number of the mule")
    static void argumentMuleOfSend() {
        HutLoaves hut = Checks.withMules(1);
        for (int mule : NO_SUCH_MULES) {
            Checks.due("send(" + mule + ", 1)", hut.send(mule, 1), Checks.INVALID);
        }
        HutLoaves full = Checks.withMules(4);
        Edges.taken("send(mule, 1)", mule -> full.send(mule, 1), 0, 3);
        Edges.outside("send(mule, 1)", mule -> full.send(mule, 1), 0, 3);
    }

    @Edge(promise = 3, says = "`loaves`: 1 to 30")
    static void argumentLoavesOfSend() {
        Edges.taken("send(0, loaves)", loaves -> Checks.withMules(1).send(0, loaves), 1, 30);
        Edges.outside("send(0, loaves)", loaves -> Checks.withMules(1).send(0, loaves), 1, 30);
    }

    @Edge(promise = 3, says = "Returns the debt then;")
    static void sendReturnsTheDebt() {
        HutLoaves hut = Checks.withMules(3);
        Checks.due("the first debt", hut.send(0, 8), 8);
        Checks.due("grows", hut.send(1, 1), 9);
        hut.group(9, 0, 1);
        hut.end(1);
        Checks.due("pay all", hut.pay(9), 0);
        Checks.due("what was paid is not in it", hut.send(2, 30), 30);
    }

    @Edge(promise = 3, says = "INVALID_ARGUMENT if an argument is out of range;")
    static void sendOutOfRange() {
        HutLoaves hut = Checks.withMules(2);
        Checks.due("no such mule", hut.send(2, 1), Checks.INVALID);
        Checks.due("no loaves", hut.send(0, 0), Checks.INVALID);
        Checks.due("too many loaves", hut.send(1, 31), Checks.INVALID);
        Checks.due("both", hut.send(-1, 0), Checks.INVALID);
        Checks.due("baked", hut.count(10), 0);
        hut.send(0, 30);
        Checks.due("no loaves, on its way", hut.send(0, 0), Checks.INVALID);
        Checks.due("too many loaves, on its way", hut.send(0, 31), Checks.INVALID);
    }

    @Edge(promise = 3, says = "NOT_POSSIBLE if it cannot go.")
    static void sendNotPossible() {
        HutLoaves hut = Checks.withMules(0);
        hut.mule(10, 1);
        hut.mule(30, 9);
        Checks.due("too heavy by one", hut.send(0, 11), Checks.IMPOSSIBLE);
        hut.set(1, 10);
        Checks.due("too dear by one", hut.send(1, 11), Checks.IMPOSSIBLE);
        Checks.due("neither", hut.send(0, 10), 10);
        for (int day = 1; day <= 9; day++) {
            hut.set(1, 500);
            Checks.due("away, on the day " + (day - 1), hut.send(0, 1), Checks.IMPOSSIBLE);
            hut.end(1);
        }
        Checks.due("at home again", hut.send(0, 1), 11);
    }

    // ---- rest

    @Edge(promise = 4, says = "A mule that is at home can rest, too: it has been sent 0 times since then.")
    static void restAtHome() {
        HutLoaves hut = Checks.withMules(0);
        hut.mule(5, 2);
        hut.send(0, 1);
        hut.end(4);
        Checks.due("sent", hut.muleOf(0, 5), 1);
        Checks.due("rest(0)", hut.rest(0), 1);
        Checks.due("sent", hut.muleOf(0, 5), 0);
        Edges.place(hut, 0, 0, 0);
        hut.send(0, 1);
        hut.end(4);
        Edges.place(hut, 0, 0, 0);
        hut.send(0, 1);
        hut.end(4);
        Edges.place(hut, 0, 3, 5);
    }

    @Edge(promise = 4, says = "Lets a mule rest.")
    static void restRests() {
        HutLoaves hut = Checks.withMules(2);
        hut.send(0, 1);
        hut.send(1, 1);
        hut.end(4);
        hut.rest(1);
        Checks.due("it has rested", hut.muleOf(1, 5), 0);
        Checks.due("the other one has not", hut.muleOf(0, 5), 1);
        Checks.due("it takes no day", hut.count(3), 4);
        Checks.due("it can go", hut.why(1, 30), 0);
    }

    @Edge(promise = 4, says = "`mule`: number of the mule")
    static void argumentMuleOfRest() {
        HutLoaves hut = Checks.withMules(1);
        for (int mule : NO_SUCH_MULES) {
            Checks.due("rest(" + mule + ")", hut.rest(mule), Checks.INVALID);
        }
        HutLoaves full = Checks.withMules(4);
        Edges.taken("rest(mule)", full::rest, 0, 3);
        Edges.outside("rest(mule)", full::rest, 0, 3);
    }

    @Edge(promise = 4, says = "Returns how often it had been sent since it rested;")
    static void restReturnsHowOften() {
        HutLoaves hut = Checks.withMules(1);
        Checks.due("never", hut.rest(0), 0);
        for (int often = 1; often <= 8; often++) {
            for (int k = 0; k < often; k++) {
                hut.send(0, 1);
                hut.end(4);
            }
            Checks.due("rest(0)", hut.rest(0), often);
            Checks.due("rest(0) again", hut.rest(0), 0);
        }
    }

    @Edge(promise = 4, says = "INVALID_ARGUMENT;")
    static void restOfNoMule() {
        HutLoaves hut = new HutLoaves();
        Checks.due("without mules", hut.rest(0), Checks.INVALID);
        hut.mule(1, 1);
        Checks.due("the next number", hut.rest(1), Checks.INVALID);
        Checks.due("below 0", hut.rest(-1), Checks.INVALID);
        hut.undo();
        Checks.due("one that was undone", hut.rest(0), Checks.INVALID);
    }

    @Edge(promise = 4, says = "NOT_POSSIBLE if it is not at home.")
    static void restNotAtHome() {
        HutLoaves hut = Checks.withMules(0);
        hut.mule(5, 1);
        hut.send(0, 1);
        for (int day = 0; day < 9; day++) {
            Checks.due("rest(0) on the day " + day, hut.rest(0), Checks.IMPOSSIBLE);
            hut.end(1);
        }
        Checks.due("at home", hut.rest(0), 0);
    }

    // ---- pay

    /** A debt of 500, and no money. */
    private static HutLoaves deepInDebt() {
        HutLoaves hut = Checks.withMules(3);
        hut.set(0, 9);
        hut.send(0, 30);
        hut.send(1, 25);
        hut.set(0, 1);
        hut.send(2, 5);
        Checks.due("debt", hut.count(6), 500);
        Checks.due("money", hut.count(5), 0);
        return hut;
    }

    /** Groups come and stay hungry on this day, each person paying 1. */
    private static void earn(HutLoaves hut, int money) {
        int before = hut.count(5);
        for (int left = money; left > 0; left -= 12) {
            hut.group(Math.min(12, left), 0, 1);
        }
        hut.end(1);
        Checks.due("money", hut.count(5), before + money);
    }

    @Edge(promise = 5, says = "The money of the hut (0 at first) grows by what groups pay.")
    static void moneyGrows() {
        HutLoaves hut = Checks.withMules(1);
        Checks.due("at first", hut.count(5), 0);
        hut.send(0, 30);
        Checks.due("loaves on credit take none", hut.count(5), 0);
        hut.group(1, 0, 2);
        hut.group(12, 1, 1);
        hut.end(1);
        Checks.due("one person, hungry", hut.count(5), 1);
        hut.end(1);
        Checks.due("13 persons, fed", hut.count(5), 40);
        hut.end(1);
        Checks.due("no persons", hut.count(5), 40);
    }

    @Edge(promise = 5, says = "Pays money to the baker.")
    static void payPays() {
        HutLoaves hut = deepInDebt();
        earn(hut, 100);
        hut.pay(40);
        Checks.due("money", hut.count(5), 60);
        Checks.due("debt", hut.count(6), 460);
        Checks.due("paid", hut.count(17), 40);
        hut.pay(60);
        Checks.due("money", hut.count(5), 0);
        Checks.due("debt", hut.count(6), 400);
        Checks.due("paid", hut.count(17), 100);
        Checks.due("what groups paid stays", hut.count(16), 100);
    }

    @Edge(promise = 5, says = "`much`: 1 to 500")
    static void argumentMuch() {
        HutLoaves hut = deepInDebt();
        hut.group(12, 0, 9);
        for (int k = 0; k < 9; k++) {
            hut.group(12, 0, 9);
        }
        hut.end(9);
        Checks.due("there is more than enough money", hut.count(5) > 501 ? 1 : 0, 1);
        Edges.outside("pay(much)", hut::pay, 1, 500);
        Checks.due("pay(500)", hut.pay(500), 0);
        hut.undo();
        Checks.due("pay(1)", hut.pay(1), 499);
        Checks.due("pay(499)", hut.pay(499), 0);
    }

    @Edge(promise = 5, says = "Returns the debt then;")
    static void payReturnsTheDebt() {
        HutLoaves hut = deepInDebt();
        earn(hut, 7);
        Checks.due("pay(1)", hut.pay(1), 499);
        Checks.due("pay(6)", hut.pay(6), 493);
        hut = Checks.withMules(1);
        earn(hut, 7);
        hut.send(0, 7);
        Checks.due("none is left", hut.pay(7), 0);
    }

    @Edge(promise = 5, says = "INVALID_ARGUMENT if much is out of range;")
    static void payOutOfRange() {
        HutLoaves hut = new HutLoaves();
        Checks.due("pay(0)", hut.pay(0), Checks.INVALID);
        Checks.due("pay(501)", hut.pay(501), Checks.INVALID);
        Checks.due("pay(-1)", hut.pay(-1), Checks.INVALID);
        Checks.due("states", hut.count(18), 0);
    }

    @Edge(promise = 5, says = "NOT_POSSIBLE if the hut has not so much, or owes less.")
    static void payNotPossible() {
        HutLoaves hut = new HutLoaves();
        Checks.due("neither money nor debt", hut.pay(1), Checks.IMPOSSIBLE);
        hut = deepInDebt();
        Checks.due("no money", hut.pay(1), Checks.IMPOSSIBLE);
        earn(hut, 9);
        Checks.due("money but for one", hut.pay(10), Checks.IMPOSSIBLE);
        Checks.due("all the money", hut.pay(9), 491);
        Checks.due("no money any more", hut.pay(1), Checks.IMPOSSIBLE);
        hut = Checks.withMules(1);
        earn(hut, 9);
        Checks.due("no debt", hut.pay(1), Checks.IMPOSSIBLE);
        hut.send(0, 5);
        Checks.due("the debt is less by one", hut.pay(6), Checks.IMPOSSIBLE);
        Checks.due("all the debt", hut.pay(5), 0);
        Checks.due("no debt any more", hut.pay(1), Checks.IMPOSSIBLE);
    }
}
