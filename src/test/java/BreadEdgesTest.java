/** Promises 10, 13, 14 and 16 to 19: what there is, and what would be; a test for each sentence. */
public final class BreadEdgesTest {
    private static final int[] NO_SUCH_MULES = {-1, 1, 2, 3, 4, 256, 65536, Integer.MIN_VALUE, Integer.MAX_VALUE};

    public static void main(String[] args) {
        Edges.run(BreadEdgesTest.class);
    }

    // ---- muleOf

    @Edge(promise = 10, says = "A mule is at home in the valley (at first), on its way up, on its way down, or lame.")
    static void placesOfAMule() {
        HutLoaves hut = Checks.withMules(0);
        hut.mule(5, 1);
        Checks.due("at first", hut.muleOf(0, 2), 0);
        hut.end(1);
        Checks.due("while it is not sent", hut.muleOf(0, 2), 0);
        hut.send(0, 1);
        int[] places = {1, 1, 2, 2, 3, 3, 3, 3, 3, 0};
        for (int day = 0; day < places.length; day++) {
            Checks.due("place, " + day + " days after it was sent", hut.muleOf(0, 2), places[day]);
            hut.end(1);
        }
    }

    @Edge(promise = 10, says = "A mule is at home in the valley (at first),")
    static void atHomeAtFirstAfterUndo() {
        int[] days = {1, 3, 5};
        for (int away : days) {
            HutLoaves hut = new HutLoaves();
            hut.mule(9, 1);
            hut.send(0, 9);
            hut.end(away);
            for (int k = 0; k < 3; k++) {
                hut.undo();
            }
            hut.mule(8, 2);
            int[] want = {8, 2, 0, 0, 0, 0, 0, 0};
            for (int what = 0; what < want.length; what++) {
                Checks.due("muleOf(0, " + what + ") of one that gets the number of another, undone", hut.muleOf(0, what),
                    want[what]);
            }
        }
    }

    @Edge(promise = 10, says = "Returns something of a mule.")
    static void muleOfEachMule() {
        HutLoaves hut = new HutLoaves();
        for (int k = 0; k < 4; k++) {
            hut.mule(10 + k, 5);
        }
        for (int k = 0; k < 4; k++) {
            Checks.due("load of " + k, hut.muleOf(k, 0), 10 + k);
        }
    }

    @Edge(promise = 10, says = "`mule`: number of the mule")
    static void argumentMuleOfMuleOf() {
        HutLoaves hut = Checks.withMules(1);
        for (int mule : NO_SUCH_MULES) {
            Checks.due("muleOf(" + mule + ", 0)", hut.muleOf(mule, 0), Checks.INVALID);
        }
        HutLoaves full = Checks.withMules(4);
        Edges.taken("muleOf(mule, 0)", mule -> full.muleOf(mule, 0), 0, 3);
        Edges.outside("muleOf(mule, 0)", mule -> full.muleOf(mule, 0), 0, 3);
    }

    @Edge(promise = 10, says = "`what`: 0: its load;")
    static void itsLoad() {
        HutLoaves hut = Checks.withMules(0);
        hut.mule(1, 9);
        hut.mule(30, 9);
        hut.send(1, 7);
        Checks.due("the least", hut.muleOf(0, 0), 1);
        Checks.due("the greatest, though it brings less", hut.muleOf(1, 0), 30);
    }

    @Edge(promise = 10, says = "1: its strength;")
    static void itsStrength() {
        HutLoaves hut = Checks.withMules(0);
        hut.mule(30, 1);
        hut.mule(30, 9);
        hut.send(0, 1);
        hut.end(4);
        Checks.due("the least, also of a lame one", hut.muleOf(0, 1), 1);
        Checks.due("the greatest", hut.muleOf(1, 1), 9);
    }

    @Edge(promise = 10, says = "2: where it is: 0 at home, 1 on its way up, 2 on its way down, 3 lame;")
    static void whereItIs() {
        HutLoaves hut = Checks.withMules(0);
        hut.mule(5, 1);
        hut.mule(5, 2);
        hut.mule(5, 3);
        hut.mule(5, 4);
        hut.send(0, 1);
        hut.end(2);
        hut.send(1, 1);
        hut.end(2);
        hut.send(2, 1);
        int[] places = {3, 2, 1, 0};
        for (int mule = 0; mule < 4; mule++) {
            Checks.due("place of " + mule, hut.muleOf(mule, 2), places[mule]);
        }
    }

    @Edge(promise = 10, says = "3: how many days it has to go (0 at home);")
    static void daysToGo() {
        HutLoaves hut = Checks.withMules(0);
        hut.mule(5, 1);
        Checks.due("at home", hut.muleOf(0, 3), 0);
        hut.send(0, 1);
        int[] days = {2, 1, 2, 1, 5, 4, 3, 2, 1, 0, 0};
        for (int day = 0; day < days.length; day++) {
            Checks.due("days to go, " + day + " days after it was sent", hut.muleOf(0, 3), days[day]);
            hut.end(1);
        }
    }

    @Edge(promise = 10, says = "4: the loaves that it brings;")
    static void loavesThatItBrings() {
        HutLoaves hut = Checks.withMules(2);
        Checks.due("at home", hut.muleOf(0, 4), 0);
        hut.send(0, 1);
        hut.send(1, 30);
        Checks.due("the fewest", hut.muleOf(0, 4), 1);
        Checks.due("the most", hut.muleOf(1, 4), 30);
        hut.end(1);
        Checks.due("on its way", hut.muleOf(1, 4), 30);
        hut.end(1);
        Checks.due("when it has brought them", hut.muleOf(1, 4), 0);
        hut.end(2);
        Checks.due("at home again", hut.muleOf(1, 4), 0);
    }

    @Edge(promise = 10, says = "5: how often it has been sent since it rested;")
    static void howOftenSent() {
        HutLoaves hut = Checks.withMules(0);
        hut.mule(5, 2);
        Checks.due("never", hut.muleOf(0, 5), 0);
        hut.send(0, 1);
        Checks.due("at once", hut.muleOf(0, 5), 1);
        Checks.due("one that is refused", hut.send(0, 1), Checks.IMPOSSIBLE);
        hut.end(4);
        Checks.due("at home", hut.muleOf(0, 5), 1);
        hut.send(0, 1);
        hut.end(8);
        Checks.due("lame", hut.muleOf(0, 5), 2);
        hut.end(1);
        Checks.due("when it is at home, and has rested", hut.muleOf(0, 5), 0);
        hut.send(0, 1);
        Checks.due("from then on", hut.muleOf(0, 5), 1);
        hut.end(4);
        hut.rest(0);
        Checks.due("after rest", hut.muleOf(0, 5), 0);
    }

    @Edge(promise = 10, says = "6: loaves with which it came to the hut so far (also those that were lost or thrown away"
        + " at once);")
    static void loavesThatCame() {
        HutLoaves hut = Checks.withMules(3);
        Checks.due("none", hut.muleOf(0, 6), 0);
        hut.send(0, 30);
        hut.send(1, 30);
        hut.send(2, 21);
        hut.end(1);
        Checks.due("none yet", hut.muleOf(2, 6), 0);
        hut.end(1);
        Checks.due("one is lost", hut.count(13), 1);
        Checks.due("with that one", hut.muleOf(2, 6), 21);
        hut.end(2);
        hut.send(2, 30);
        hut.end(2);
        Checks.due("all are lost", hut.count(13), 31);
        Checks.due("in all", hut.muleOf(2, 6), 51);
        hut.end(2);
        hut.rest(2);
        Checks.due("it rests, and they stay", hut.muleOf(2, 6), 51);
        hut = Edges.onDay(71);
        hut.set(3, 90);
        hut.mule(5, 1);
        hut.send(0, 5);
        hut.end(21);
        hut.set(3, 0);
        hut.end(1);
        Checks.due("thrown away at once", hut.count(12), 5);
        Checks.due("with those, too", hut.muleOf(0, 6), 5);
    }

    @Edge(promise = 10, says = "7: how often it went lame so far")
    static void howOftenLame() {
        HutLoaves hut = Checks.withMules(0);
        hut.mule(5, 1);
        for (int often = 0; often < 3; often++) {
            hut.send(0, 1);
            hut.end(3);
            Checks.due("not yet", hut.muleOf(0, 7), often);
            hut.end(1);
            Checks.due("lame", hut.muleOf(0, 7), often + 1);
            hut.end(5);
            Checks.due("at home again", hut.muleOf(0, 7), often + 1);
        }
    }

    @Edge(promise = 10, says = "Returns the number;")
    static void muleOfReturnsTheNumber() {
        HutLoaves hut = Checks.withMules(0);
        hut.mule(30, 1);
        hut.send(0, 29);
        hut.end(9);
        hut.send(0, 28);
        hut.end(1);
        int[] want = {30, 1, 1, 1, 28, 1, 29, 1};
        for (int what = 0; what < want.length; what++) {
            Checks.due("muleOf(0, " + what + ")", hut.muleOf(0, what), want[what]);
        }
    }

    @Edge(promise = 10, says = "INVALID_ARGUMENT if an argument is out of range.")
    static void muleOfOutOfRange() {
        HutLoaves hut = Checks.withMules(2);
        Edges.taken("muleOf(0, what)", what -> hut.muleOf(0, what), 0, 7);
        Edges.outside("muleOf(0, what)", what -> hut.muleOf(0, what), 0, 7);
        Checks.due("no such mule", hut.muleOf(2, 0), Checks.INVALID);
        Checks.due("neither", hut.muleOf(2, 8), Checks.INVALID);
        Checks.due("without mules", new HutLoaves().muleOf(0, 0), Checks.INVALID);
    }

    // ---- loaves

    @Edge(promise = 13, says = "Returns how many loaves of an age the hut has.")
    static void loavesOfTheHut() {
        HutLoaves hut = Checks.withMules(1);
        hut.send(0, 30);
        Checks.due("those on their way are not the hut's", hut.loaves(0), 0);
        hut.end(1);
        Checks.due("those on their way are not the hut's", hut.loaves(1), 0);
        hut.end(1);
        Checks.due("those that came", hut.loaves(2), 30);
        hut.group(12, 0, 1);
        hut.end(1);
        Checks.due("less those that were eaten", hut.loaves(3), 24);
    }

    @Edge(promise = 13, says = "`age`: 0 to 20")
    static void argumentAge() {
        HutLoaves hut = Checks.withMules(1);
        hut.send(0, 30);
        hut.end(20);
        for (int age = 0; age <= 20; age++) {
            Checks.due("loaves(" + age + ")", hut.loaves(age), age == 20 ? 30 : 0);
        }
        Edges.outside("loaves(age)", hut::loaves, 0, 20);
    }

    @Edge(promise = 13, says = "Returns how many;")
    static void loavesReturnsHowMany() {
        HutLoaves hut = Checks.withMules(4);
        Checks.due("none", hut.loaves(2), 0);
        for (int k = 0; k < 3; k++) {
            hut.send(k, 30);
        }
        hut.end(1);
        hut.send(3, 1);
        hut.end(1);
        hut.set(2, 15);
        hut.group(2, 0, 1);
        Checks.due("the most", hut.loaves(2), 80);
        hut.end(1);
        Checks.due("one less, as the one that comes is lost", hut.loaves(3), 79);
        Checks.due("the one that comes", hut.loaves(2), 0);
    }

    @Edge(promise = 13, says = "INVALID_ARGUMENT if age is out of range.")
    static void loavesOutOfRange() {
        HutLoaves hut = new HutLoaves();
        Checks.due("loaves(-1)", hut.loaves(-1), Checks.INVALID);
        Checks.due("loaves(21)", hut.loaves(21), Checks.INVALID);
        Checks.due("loaves(0)", hut.loaves(0), 0);
        Checks.due("loaves(20)", hut.loaves(20), 0);
    }

    // ---- why

    @Edge(promise = 14, says = "Tells why a mule cannot go: the first of these that is so: 1 it is not at home;")
    static void notAtHome() {
        HutLoaves hut = Checks.withMules(0);
        hut.mule(5, 1);
        hut.set(1, 10);
        Checks.due("at home", hut.why(0, 5), 0);
        hut.send(0, 5);
        for (int day = 0; day < 9; day++) {
            Checks.due("away, on the day " + day, hut.why(0, 1), 1);
            Checks.due("away rather than too many", hut.why(0, 6), 1);
            Checks.due("away rather than too dear", hut.why(0, 30), 1);
            hut.end(1);
        }
        Checks.due("at home again", hut.why(0, 5), 0);
    }

    @Edge(promise = 14, says = "2 it cannot carry so many;")
    static void cannotCarrySoMany() {
        for (int load = 1; load <= 29; load++) {
            HutLoaves hut = Checks.withoutSnow();
            hut.set(1, 500);
            hut.mule(load, 5);
            Checks.due("as many as its load", hut.why(0, load), 0);
            Checks.due("one more", hut.why(0, load + 1), 2);
        }
        HutLoaves hut = Checks.withoutSnow();
        hut.mule(7, 5);
        hut.set(1, 10);
        Checks.due("too many rather than too dear", hut.why(0, 8), 2);
        Checks.due("too dear", hut.why(0, 7), 3);
    }

    @Edge(promise = 14, says = "3 the debt would be above the credit;")
    static void aboveTheCredit() {
        HutLoaves hut = Checks.withMules(2);
        hut.set(1, 20);
        Checks.due("just the credit", hut.why(0, 20), 0);
        Checks.due("above by one", hut.why(0, 21), 3);
        hut.send(1, 15);
        Checks.due("with a debt, just the credit", hut.why(0, 5), 0);
        Checks.due("with a debt, above by one", hut.why(0, 6), 3);
        hut.set(0, 2);
        Checks.due("dearer, below by one", hut.why(0, 2), 0);
        Checks.due("dearer, above by one", hut.why(0, 3), 3);
        hut.set(1, 10);
        Checks.due("a debt that is above it already", hut.why(0, 1), 3);
    }

    @Edge(promise = 14, says = "otherwise 0.")
    static void otherwiseNone() {
        HutLoaves hut = Checks.withMules(4);
        hut.set(0, 4);
        for (int mule = 0; mule < 4; mule++) {
            Checks.due("why(" + mule + ", 30)", hut.why(mule, 30), 0);
            Checks.due("and so it goes", hut.send(mule, 30), 120 * (mule + 1));
        }
    }

    @Edge(promise = 14, says = "`mule`: number of the mule")
    static void argumentMuleOfWhy() {
        HutLoaves hut = Checks.withMules(1);
        for (int mule : NO_SUCH_MULES) {
            Checks.due("why(" + mule + ", 1)", hut.why(mule, 1), Checks.INVALID);
        }
        HutLoaves full = Checks.withMules(4);
        Edges.taken("why(mule, 1)", mule -> full.why(mule, 1), 0, 3);
        Edges.outside("why(mule, 1)", mule -> full.why(mule, 1), 0, 3);
    }

    @Edge(promise = 14, says = "`loaves`: 1 to 30")
    static void argumentLoavesOfWhy() {
        HutLoaves hut = Checks.withMules(1);
        Edges.taken("why(0, loaves)", loaves -> hut.why(0, loaves), 1, 30);
        Edges.outside("why(0, loaves)", loaves -> hut.why(0, loaves), 1, 30);
    }

    @Edge(promise = 14, says = "Returns the reason;")
    static void whyReturnsTheReason() {
        HutLoaves hut = Checks.withoutSnow();
        hut.mule(30, 5);
        hut.mule(10, 5);
        hut.set(1, 10);
        Checks.due("none", hut.why(1, 5), 0);
        Checks.due("the third", hut.why(1, 6), 3);
        Checks.due("the second", hut.why(1, 11), 2);
        hut.send(1, 5);
        Checks.due("the first", hut.why(1, 5), 1);
        Checks.due("it is of this mule alone", hut.why(0, 1), 3);
    }

    @Edge(promise = 14, says = "INVALID_ARGUMENT if an argument is out of range.")
    static void whyOutOfRange() {
        HutLoaves hut = Checks.withMules(2);
        Checks.due("no such mule", hut.why(2, 1), Checks.INVALID);
        Checks.due("no loaves", hut.why(0, 0), Checks.INVALID);
        Checks.due("31 loaves", hut.why(0, 31), Checks.INVALID);
        hut.send(0, 1);
        Checks.due("no loaves, not at home", hut.why(0, 0), Checks.INVALID);
        Checks.due("31 loaves, not at home", hut.why(0, 31), Checks.INVALID);
        Checks.due("without mules", new HutLoaves().why(0, 1), Checks.INVALID);
    }

    // ---- hungry

    @Edge(promise = 16, says = "Tells at the end of how many days a group is hungry for the first time, if nothing else is"
        + " done.")
    static void hungryForTheFirstTime() {
        HutLoaves hut = Checks.withMules(2);
        hut.set(2, 15);
        hut.group(2, 0, 9);
        Checks.due("today", hut.hungry(), 1);
        hut.end(1);
        Checks.due("that it was hungry is over; it is again", hut.hungry(), 1);
        hut.send(0, 3);
        Checks.due("today yet", hut.hungry(), 1);
        hut.end(1);
        Checks.due("three loaves come tomorrow's day, and last", hut.hungry(), 4);
        hut.group(12, 2, 1);
        Checks.due("another group is hungry sooner", hut.hungry(), 3);
        hut.off(1);
        hut.send(1, 4);
        Checks.due("four more", hut.hungry(), Checks.MISSING);
        hut.undo();
        hut.send(1, 3);
        Checks.due("three more", hut.hungry(), 7);
    }

    @Edge(promise = 16, says = "Tells at the end of how many days a group is hungry for the first time, if nothing else is"
        + " done.")
    static void hungryInSpiteOfSoup() {
        HutLoaves hut = Checks.withMules(1);
        hut.set(2, 0);
        hut.send(0, 4);
        hut.end(2);
        hut.group(2, 0, 9);
        Checks.due("two days of soup", hut.hungry(), 3);
        hut.set(2, 3);
        Checks.due("two days of whole loaves, and one of soup", hut.hungry(), 4);
        hut.set(2, 4);
        Checks.due("three days of whole loaves", hut.hungry(), 4);
        hut.set(2, 5);
        Checks.due("four days of whole loaves", hut.hungry(), 5);
    }

    @Edge(promise = 16, says = "Returns how many;")
    static void hungryReturnsHowMany() {
        for (int days = 0; days <= 59; days++) {
            HutLoaves hut = new HutLoaves();
            hut.group(1, days, 1);
            Checks.due("one that comes in " + days + " days", hut.hungry(), days + 1);
            Checks.due("as it is when they end", hut.end(days + 1), 0);
            Checks.due("hungry days", hut.count(15), 1);
        }
    }

    @Edge(promise = 16, says = "NOT_FOUND if none is by 60.")
    static void hungryNotFound() {
        Checks.due("without groups", new HutLoaves().hungry(), Checks.MISSING);
        HutLoaves hut = new HutLoaves();
        hut.group(12, 60, 9);
        Checks.due("it would be the 61st", hut.hungry(), Checks.MISSING);
        hut.end(1);
        Checks.due("it is the 60th", hut.hungry(), 60);
        hut = Checks.withMules(1);
        hut.send(0, 9);
        hut.group(2, 1, 9);
        hut.set(2, 15);
        Checks.due("there is enough for all nine days", hut.hungry(), Checks.MISSING);
    }

    @Edge(promise = 16, says = "NOT_FOUND if none is by 60.")
    static void hungryAfterTheLastDay() {
        HutLoaves hut = Edges.onDay(9999);
        hut.group(12, 59, 9);
        Checks.due("the 60th is after the day 9999", hut.hungry(), 60);
    }

    // ---- next

    @Edge(promise = 17, says = "Finds the mule that should go next: of those at home the one with the greatest load,")
    static void nextByLoad() {
        HutLoaves hut = Checks.withoutSnow();
        hut.mule(1, 9);
        Checks.due("the only one", hut.next(0), 0);
        hut.mule(30, 9);
        hut.mule(29, 9);
        Checks.due("of three", hut.next(0), 1);
        hut.send(1, 1);
        Checks.due("of those at home", hut.next(0), 2);
        hut.end(4);
        Checks.due("the load counts ahead of how often it was sent", hut.next(0), 1);
    }

    @Edge(promise = 17, says = "of several the one that has been sent least since it rested,")
    static void nextBySent() {
        HutLoaves hut = Checks.withMules(3);
        hut.send(0, 1);
        hut.send(1, 1);
        hut.end(4);
        Checks.due("never sent", hut.next(0), 2);
        hut.send(2, 1);
        hut.end(4);
        hut.send(0, 1);
        hut.send(2, 1);
        hut.end(4);
        Checks.due("sent once, of those sent twice", hut.next(0), 1);
        hut.rest(2);
        Checks.due("has rested", hut.next(0), 2);
    }

    @Edge(promise = 17, says = "of these the lowest.")
    static void nextByNumber() {
        HutLoaves hut = Checks.withMules(0);
        hut.mule(9, 9);
        hut.mule(10, 9);
        hut.mule(10, 1);
        hut.mule(10, 9);
        Checks.due("of three", hut.next(0), 1);
        hut.send(1, 1);
        Checks.due("of two, whatever their strength", hut.next(0), 2);
        hut.send(2, 1);
        hut.send(3, 1);
        hut.end(4);
        Checks.due("of those sent as often", hut.next(0), 1);
    }

    @Edge(promise = 17, says = "`what`: 0: the mule;")
    static void nextTellsTheMule() {
        HutLoaves hut = Checks.withMules(4);
        for (int mule = 0; mule < 4; mule++) {
            Checks.due("the mule", hut.next(0), mule);
            hut.send(mule, 1);
        }
        Checks.due("none is left", hut.next(0), Checks.MISSING);
        hut = Checks.withMules(2);
        hut.send(0, 30);
        hut.set(1, 10);
        Checks.due("also one that can take nothing", hut.next(0), 1);
    }

    @Edge(promise = 17, says = "1: how many loaves it can take today: by its load and by the credit, at least 0")
    static void nextTellsTheLoaves() {
        HutLoaves hut = Checks.withMules(2);
        Checks.due("by its load", hut.next(1), 30);
        hut.set(1, 31);
        Checks.due("by its load, a credit for one more", hut.next(1), 30);
        hut.set(1, 29);
        Checks.due("by the credit", hut.next(1), 29);
        hut.send(0, 29);
        Checks.due("no credit is left", hut.next(1), 0);
        hut.set(1, 30);
        Checks.due("for one", hut.next(1), 1);
        hut.set(1, 28);
        Checks.due("a debt above it by one", hut.next(1), 0);
        hut.set(1, 10);
        Checks.due("a debt far above it", hut.next(1), 0);
        Checks.due("and so it cannot go", hut.why(1, 1), 3);
    }

    @Edge(promise = 17, says = "All divisions are rounded down.")
    static void nextRoundsDown() {
        for (int price = 1; price <= 9; price++) {
            for (int credit = 10; credit <= 30; credit++) {
                HutLoaves hut = Checks.withMules(1);
                hut.set(0, price);
                hut.set(1, credit);
                int most = hut.next(1);
                Checks.due("for " + credit + " at " + price, most, credit / price);
                Checks.due("so many can go", hut.why(0, most), 0);
                Checks.due("and no more", most == 30 ? 3 : hut.why(0, most + 1), 3);
            }
        }
        HutLoaves hut = Checks.withMules(2);
        hut.send(0, 17);
        hut.set(0, 9);
        hut.set(1, 16);
        Checks.due("below 0 by one, and yet 0", hut.next(1), 0);
    }

    @Edge(promise = 17, says = "Returns the number;")
    static void nextReturnsTheNumber() {
        HutLoaves hut = Checks.withMules(0);
        hut.mule(9, 1);
        hut.mule(9, 1);
        hut.mule(9, 1);
        hut.mule(10, 1);
        Checks.due("the highest", hut.next(0), 3);
        Checks.due("its loaves", hut.next(1), 10);
        hut.send(3, 10);
        Checks.due("the lowest", hut.next(0), 0);
        Checks.due("its loaves", hut.next(1), 9);
    }

    @Edge(promise = 17, says = "INVALID_ARGUMENT if what is out of range;")
    static void nextOutOfRange() {
        HutLoaves hut = Checks.withMules(1);
        Edges.taken("next(what)", hut::next, 0, 1);
        Edges.outside("next(what)", hut::next, 0, 1);
        Checks.due("without mules", new HutLoaves().next(2), Checks.INVALID);
    }

    @Edge(promise = 17, says = "NOT_FOUND if none is at home.")
    static void nextNotFound() {
        Checks.due("next(0) without mules", new HutLoaves().next(0), Checks.MISSING);
        Checks.due("next(1) without mules", new HutLoaves().next(1), Checks.MISSING);
        HutLoaves hut = Checks.withMules(0);
        hut.mule(5, 1);
        hut.send(0, 1);
        for (int day = 0; day < 9; day++) {
            Checks.due("next(0) on the day " + day, hut.next(0), Checks.MISSING);
            Checks.due("next(1) on the day " + day, hut.next(1), Checks.MISSING);
            hut.end(1);
        }
        Checks.due("next(0) on the day 9", hut.next(0), 0);
        Checks.due("next(1) on the day 9", hut.next(1), 5);
    }

    // ---- would

    /** Loaves that come, are eaten whole or in soup, get too old, or have no room. */
    private static HutLoaves busyHut() {
        HutLoaves hut = Checks.withMules(4);
        hut.group(9, 1, 9);
        hut.group(12, 7, 2);
        for (int k = 0; k < 4; k++) {
            hut.send(k, 30 - k);
        }
        hut.end(1);
        hut.set(3, 20);
        return hut;
    }

    /** What would tells of each of 60 days, as it is when they end. */
    private static void wouldAsWhenTheyEnd(int what) {
        HutLoaves ended = busyHut();
        HutLoaves asked = busyHut();
        int eaten = ended.count(11);
        int wasted = ended.count(12) + ended.count(13);
        for (int days = 1; days <= 60; days++) {
            ended.end(1);
            int want = 0;
            switch (what) {
                case 0:
                    want = ended.count(11) - eaten;
                    break;
                case 1:
                    want = ended.count(5);
                    break;
                case 2:
                    want = ended.count(7);
                    break;
                default:
                    want = ended.count(12) + ended.count(13) - wasted;
                    break;
            }
            Checks.due("would(" + days + ", " + what + ")", asked.would(days, what), want);
        }
    }

    @Edge(promise = 18, says = "Tells what would be if days ended now.")
    static void wouldChangesNothing() {
        HutLoaves asked = busyHut();
        HutLoaves twin = busyHut();
        for (int what = 0; what <= 3; what++) {
            asked.would(60, what);
            asked.would(1, what);
        }
        Everything.same("would", asked, twin);
        Checks.due("end(60)", asked.end(60), twin.end(60));
        Checks.due("x", asked.count(4), twin.count(4));
        Checks.due("states", asked.count(18), twin.count(18));
    }

    @Edge(promise = 18, says = "Tells what would be if days ended now.")
    static void wouldAfterTheLastDay() {
        HutLoaves hut = Edges.onDay(9999);
        hut.group(7, 59, 1);
        Checks.due("no day can end", hut.end(1), Checks.LIMIT);
        Checks.due("would(59, 1)", hut.would(59, 1), 0);
        Checks.due("would(60, 1)", hut.would(60, 1), 7);
        Checks.due("the day", hut.count(3), 9999);
    }

    @Edge(promise = 18, says = "`days`: 1 to 60")
    static void argumentDaysOfWould() {
        HutLoaves hut = busyHut();
        for (int what = 0; what <= 3; what++) {
            int of = what;
            Edges.taken("would(days, " + what + ")", days -> hut.would(days, of), 1, 60);
            Edges.outside("would(days, " + what + ")", days -> hut.would(days, of), 1, 60);
        }
    }

    @Edge(promise = 18, says = "`what`: 0: loaves that would be eaten;")
    static void wouldBeEaten() {
        Checks.due("of none", new HutLoaves().would(60, 0), 0);
        wouldAsWhenTheyEnd(0);
        HutLoaves hut = Checks.withMules(1);
        hut.send(0, 5);
        hut.group(2, 1, 9);
        hut.end(2);
        Checks.due("one was eaten", hut.count(11), 1);
        Checks.due("which is not told", hut.would(1, 0), 1);
        Checks.due("all that are left, two of them in soup", hut.would(60, 0), 4);
    }

    @Edge(promise = 18, says = "1: the money then;")
    static void wouldBeMoney() {
        Checks.due("of none", new HutLoaves().would(60, 1), 0);
        wouldAsWhenTheyEnd(1);
        HutLoaves hut = Checks.withoutSnow();
        hut.group(5, 0, 2);
        hut.end(1);
        Checks.due("with the money of now", hut.would(1, 1), 10);
        Checks.due("and no more when it is gone", hut.would(60, 1), 10);
        Checks.due("the money of now", hut.count(5), 5);
    }

    @Edge(promise = 18, says = "2: loaves of the hut then;")
    static void wouldBeLoaves() {
        Checks.due("of none", new HutLoaves().would(60, 2), 0);
        wouldAsWhenTheyEnd(2);
        HutLoaves hut = Checks.withMules(3);
        for (int k = 0; k < 3; k++) {
            hut.send(k, 30);
        }
        Checks.due("a day too early", hut.would(1, 2), 0);
        Checks.due("a full hut", hut.would(2, 2), 80);
        Checks.due("at 20 days", hut.would(20, 2), 80);
        Checks.due("at 21 days", hut.would(21, 2), 0);
    }

    @Edge(promise = 18, says = "3: loaves that would be thrown away or lost")
    static void wouldBeWasted() {
        Checks.due("of none", new HutLoaves().would(60, 3), 0);
        wouldAsWhenTheyEnd(3);
        HutLoaves hut = Checks.withMules(3);
        for (int k = 0; k < 3; k++) {
            hut.send(k, 27);
        }
        Checks.due("a day too early", hut.would(1, 3), 0);
        Checks.due("one is lost", hut.would(2, 3), 1);
        Checks.due("at 20 days", hut.would(20, 3), 1);
        Checks.due("80 are thrown away, too", hut.would(21, 3), 81);
        hut.end(2);
        Checks.due("what was lost is not told", hut.would(18, 3), 0);
        Checks.due("what will be thrown away is", hut.would(19, 3), 80);
        hut.end(19);
        Checks.due("what was thrown away is not told", hut.would(60, 3), 0);
    }

    @Edge(promise = 18, says = "Returns the number;")
    static void wouldReturnsTheNumber() {
        HutLoaves hut = Checks.withMules(3);
        hut.group(3, 2, 2);
        for (int k = 0; k < 3; k++) {
            hut.send(k, 30);
        }
        int[] want = {4, 18, 0, 86};
        for (int what = 0; what < want.length; what++) {
            Checks.due("would(60, " + what + ")", hut.would(60, what), want[what]);
        }
    }

    @Edge(promise = 18, says = "INVALID_ARGUMENT if an argument is out of range.")
    static void wouldOutOfRange() {
        HutLoaves hut = busyHut();
        Edges.outside("would(1, what)", what -> hut.would(1, what), 0, 3);
        Checks.due("no days", hut.would(0, 0), Checks.INVALID);
        Checks.due("61 days", hut.would(61, 3), Checks.INVALID);
        Checks.due("neither", hut.would(0, 4), Checks.INVALID);
        Checks.due("neither", hut.would(61, -1), Checks.INVALID);
    }

    // ---- mean

    @Edge(promise = 19, says = "Returns the mean age of the hut's loaves, as a float: the ages together, as a float,"
        + " divided by how many there are, as a float.")
    static void meanAsAFloat() {
        for (int older = 1; older <= 30; older++) {
            HutLoaves hut = Checks.withMules(3);
            hut.send(0, older);
            hut.end(2);
            hut.send(1, 30);
            hut.send(2, 7);
            hut.end(2);
            float ages = older * 4 + 37 * 2;
            float many = older + 37;
            Checks.due("mean with " + older + " older ones", hut.mean(), Float.floatToIntBits(ages / many));
            hut.end(16);
            ages = older * 20 + 37 * 18;
            Checks.due("mean with " + older + " of 20 days", hut.mean(), Float.floatToIntBits(ages / many));
        }
    }

    @Edge(promise = 19, says = "Returns the bits of the float;")
    static void meanIsTold() {
        HutLoaves hut = Checks.withMules(1);
        hut.send(0, 1);
        int[] bits = {0x40000000, 0x40400000, 0x40800000, 0x40A00000, 0x40C00000, 0x40E00000, 0x41000000, 0x41100000,
            0x41200000, 0x41300000, 0x41400000, 0x41500000, 0x41600000, 0x41700000, 0x41800000, 0x41880000, 0x41900000,
            0x41980000, 0x41A00000};
        hut.end(1);
        for (int age = 2; age <= 20; age++) {
            hut.end(1);
            Checks.due("one loaf of the age " + age, hut.mean(), bits[age - 2]);
        }
        hut = Checks.withMules(3);
        for (int k = 0; k < 3; k++) {
            hut.send(k, 30);
        }
        hut.end(20);
        Checks.due("80 loaves of the age 20", hut.mean(), 0x41A00000);
        hut = Checks.withMules(2);
        hut.send(0, 1);
        hut.end(1);
        hut.send(1, 2);
        hut.end(2);
        Checks.due("7 by 3", hut.mean(), 0x40155555);
    }

    @Edge(promise = 19, says = "NOT_FOUND without loaves.")
    static void meanNotFound() {
        HutLoaves hut = Checks.withMules(1);
        Checks.due("a new hut", hut.mean(), Checks.MISSING);
        hut.send(0, 2);
        hut.end(1);
        Checks.due("loaves on their way", hut.mean(), Checks.MISSING);
        hut.end(1);
        Checks.due("loaves that came", hut.mean(), 0x40000000);
        hut.group(3, 0, 1);
        hut.end(1);
        Checks.due("all are eaten", hut.mean(), Checks.MISSING);
        hut.end(1);
        hut.send(0, 1);
        hut.end(20);
        Checks.due("one of 20 days", hut.mean(), 0x41A00000);
        hut.end(1);
        Checks.due("all are thrown away", hut.mean(), Checks.MISSING);
    }
}
