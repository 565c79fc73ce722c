/** Promises 6, 7, 9, 11, 12 and 15, and what the terms say of guests and settings: a test for each sentence. */
public final class GuestsEdgesTest {
    private static final int[] NO_SUCH_GROUPS = {-1, 1, 2, 9, 10, 256, 65536, Integer.MIN_VALUE, Integer.MAX_VALUE};

    public static void main(String[] args) {
        Edges.run(GuestsEdgesTest.class);
    }

    private static HutLoaves withGroups(int many) {
        HutLoaves hut = Checks.withoutSnow();
        for (int k = 0; k < many; k++) {
            Checks.due("group(" + (1 + k) + ", 2, 3)", hut.group(1 + k, 2, 3), k);
        }
        return hut;
    }

    // ---- group

    @Edge(promise = 6, says = "At most 10 groups are booked at a time,")
    static void atMostTenGroups() {
        HutLoaves hut = withGroups(10);
        Checks.due("an eleventh", hut.group(1, 0, 1), Checks.LIMIT);
        Checks.due("booked", hut.count(1), 10);
        Checks.due("so far", hut.count(2), 10);
        hut.off(9);
        Checks.due("when one is off", hut.group(1, 0, 1), 10);
        Checks.due("full again", hut.group(1, 0, 1), Checks.LIMIT);
        hut.end(1);
        Checks.due("when one is gone", hut.group(1, 0, 1), 11);
        Checks.due("booked", hut.count(1), 10);
        hut.end(4);
        Checks.due("when all are gone", hut.count(1), 0);
        for (int k = 12; k < 22; k++) {
            Checks.due("ten more", hut.group(1, 0, 1), k);
        }
        Checks.due("an eleventh of these", hut.group(1, 0, 1), Checks.LIMIT);
    }

    @Edge(promise = 6, says = "numbered in the order in which they were booked (no number comes again),")
    static void noNumberComesAgain() {
        HutLoaves hut = Checks.withoutSnow();
        Checks.due("the first", hut.group(1, 9, 1), 0);
        Checks.due("the second, though it comes ahead", hut.group(2, 0, 1), 1);
        hut.off(1);
        Checks.due("the number of one that is off", hut.group(3, 0, 1), 2);
        hut.end(1);
        Checks.due("the number of one that is gone", hut.group(4, 0, 1), 3);
        Checks.due("the first has its own yet", hut.groupOf(0, 0), 1);
        Checks.due("the last, too", hut.groupOf(3, 0), 4);
        hut.off(0);
        hut.off(3);
        Checks.due("when none is booked", hut.group(5, 0, 1), 4);
        for (int k = 5; k < 130; k++) {
            hut.off(k - 1);
            Checks.due("far on", hut.group(6, 0, 1), k);
        }
        hut.off(129);
        for (int k = 130; k < 258; k++) {
            Checks.due("far on", hut.group(7, 0, 1), k);
            if (k % 10 == 9) {
                hut.end(1);
            }
        }
        Checks.due("the last, above 255", hut.groupOf(257, 0), 7);
        Checks.due("no other bears its number modulo 256", hut.groupOf(1, 0), Checks.INVALID);
    }

    @Edge(promise = 6, says = "each of some persons (1 to 12),")
    static void personsOfGroups() {
        HutLoaves hut = new HutLoaves();
        Checks.due("group(0, 0, 1)", hut.group(0, 0, 1), Checks.INVALID);
        Checks.due("group(13, 0, 1)", hut.group(13, 0, 1), Checks.INVALID);
        Checks.due("group(1, 0, 1)", hut.group(1, 0, 1), 0);
        Checks.due("group(12, 0, 1)", hut.group(12, 0, 1), 1);
        Checks.due("the fewest persons", hut.groupOf(0, 0), 1);
        Checks.due("the most persons", hut.groupOf(1, 0), 12);
    }

    @Edge(promise = 6, says = "from a day on,")
    static void fromADayOn() {
        HutLoaves hut = Checks.withoutSnow();
        hut.group(2, 3, 2);
        hut.end(2);
        Checks.due("a day ahead it is not there", hut.groupOf(0, 4), 0);
        hut.end(1);
        Checks.due("and has paid nothing", hut.groupOf(0, 5), 0);
        Checks.due("on its day it is there", hut.groupOf(0, 4), 1);
        hut.end(1);
        Checks.due("and has paid", hut.groupOf(0, 5), 2);
    }

    @Edge(promise = 6, says = "for some nights (1 to 9).")
    static void nightsOfGroups() {
        HutLoaves hut = Checks.withoutSnow();
        Checks.due("group(1, 0, 0)", hut.group(1, 0, 0), Checks.INVALID);
        Checks.due("group(1, 0, 10)", hut.group(1, 0, 10), Checks.INVALID);
        Checks.due("group(1, 0, 1)", hut.group(1, 0, 1), 0);
        Checks.due("group(1, 0, 9)", hut.group(1, 0, 9), 1);
        hut.end(1);
        Checks.due("one night is over", hut.groupOf(0, 0), Checks.INVALID);
        hut.end(7);
        Checks.due("eight nights of nine", hut.groupOf(1, 4), 1);
        Checks.due("eight days paid", hut.groupOf(1, 5), 8);
        hut.end(1);
        Checks.due("nine nights are over", hut.groupOf(1, 0), Checks.INVALID);
        hut.end(1);
        Checks.due("ten days of persons paid", hut.count(16), 10);
    }

    @Edge(promise = 15, says = "On each of these days each person wants half a loaf;")
    static void halfALoafADay() {
        HutLoaves hut = new HutLoaves();
        hut.group(12, 2, 3);
        int[] want = {0, 0, 6, 6, 6, 0};
        for (int days = 0; days < want.length; days++) {
            Checks.due("wanted(" + days + ")", hut.wanted(days), want[days]);
        }
    }

    @Edge(promise = 11, says = "a group wants whole loaves (persons / 2, rounded up).")
    static void wholeLoaves() {
        for (int persons = 1; persons <= 12; persons++) {
            HutLoaves hut = new HutLoaves();
            hut.group(persons, 0, 1);
            hut.group(persons, 0, 1);
            int wants = persons / 2 + persons % 2;
            Checks.due("a group of " + persons, hut.groupOf(0, 3), wants);
            Checks.due("each of two groups of " + persons, hut.wanted(0), 2 * wants);
        }
    }

    @Edge(promise = 6, says = "Books a group.")
    static void groupBooks() {
        HutLoaves hut = new HutLoaves();
        Checks.due("none at first", hut.groupOf(0, 0), Checks.INVALID);
        hut.group(5, 4, 3);
        Checks.due("booked", hut.count(1), 1);
        int[] want = {5, 4, 3, 3, 0, 0, 0};
        for (int what = 0; what < want.length; what++) {
            Checks.due("groupOf(0, " + what + ")", hut.groupOf(0, what), want[what]);
        }
        Checks.due("no second one", hut.groupOf(1, 0), Checks.INVALID);
    }

    @Edge(promise = 6, says = "`persons`: 1 to 12")
    static void argumentPersons() {
        Edges.taken("group(persons, 0, 1)", persons -> new HutLoaves().group(persons, 0, 1), 1, 12);
        Edges.outside("group(persons, 0, 1)", persons -> new HutLoaves().group(persons, 0, 1), 1, 12);
    }

    @Edge(promise = 6, says = "`days`: 0 to 60: it comes so many days from now")
    static void argumentDaysOfGroup() {
        Edges.taken("group(1, days, 1)", days -> new HutLoaves().group(1, days, 1), 0, 60);
        Edges.outside("group(1, days, 1)", days -> new HutLoaves().group(1, days, 1), 0, 60);
        HutLoaves hut = Edges.onDay(5);
        hut.group(1, 0, 1);
        hut.group(1, 60, 1);
        Checks.due("it comes today", hut.groupOf(0, 1), 5);
        Checks.due("and is there", hut.groupOf(0, 4), 1);
        Checks.due("it comes in 60 days", hut.groupOf(1, 1), 65);
        hut.end(60);
        Checks.due("and is there then", hut.groupOf(1, 4), 1);
    }

    @Edge(promise = 6, says = "`days`: 0 to 60: it comes so many days from now")
    static void groupAfterTheLastDay() {
        HutLoaves hut = Edges.onDay(9999);
        Checks.due("booked on the last day", hut.group(1, 60, 9), 0);
        Checks.due("for a day above it", hut.groupOf(0, 1), 10059);
        Checks.due("wanted(60)", hut.wanted(60), 1);
        Checks.due("wanted(59)", hut.wanted(59), 0);
    }

    @Edge(promise = 6, says = "`nights`: 1 to 9")
    static void argumentNights() {
        Edges.taken("group(1, 0, nights)", nights -> new HutLoaves().group(1, 0, nights), 1, 9);
        Edges.outside("group(1, 0, nights)", nights -> new HutLoaves().group(1, 0, nights), 1, 9);
    }

    @Edge(promise = 6, says = "Returns its number;")
    static void groupReturnsItsNumber() {
        HutLoaves hut = withGroups(9);
        Checks.due("one that is refused has no number", hut.group(0, 0, 1), Checks.INVALID);
        Checks.due("the tenth", hut.group(12, 60, 9), 9);
        Checks.due("its persons", hut.groupOf(9, 0), 12);
    }

    @Edge(promise = 6, says = "INVALID_ARGUMENT if an argument is out of range;")
    static void groupOutOfRange() {
        HutLoaves hut = new HutLoaves();
        int[][] wrong = {{0, 0, 1}, {13, 60, 9}, {1, -1, 1}, {12, 61, 9}, {1, 0, 0}, {12, 60, 10}, {0, -1, 0},
            {13, 61, 10}};
        for (int[] w : wrong) {
            Checks.due("group(" + w[0] + ", " + w[1] + ", " + w[2] + ")",
                hut.group(w[0], w[1], w[2]), Checks.INVALID);
        }
        Checks.due("booked", hut.count(1), 0);
        Checks.due("so far", hut.count(2), 0);
        Checks.due("states", hut.count(18), 0);
    }

    @Edge(promise = 6, says = "LIMIT_REACHED if 10 are booked.")
    static void groupLimit() {
        HutLoaves hut = withGroups(9);
        Checks.due("with 9 booked", hut.group(1, 0, 1), 9);
        Checks.due("with 10 booked", hut.group(1, 0, 1), Checks.LIMIT);
        hut.undo();
        Checks.due("with 9 booked after undo", hut.group(2, 0, 1), 9);
        Checks.due("with 10 booked", hut.group(12, 60, 9), Checks.LIMIT);
    }

    // ---- off

    @Edge(promise = 7, says = "Calls a group off (one that is there leaves).")
    static void offCallsOff() {
        HutLoaves hut = Checks.withoutSnow();
        hut.group(4, 0, 9);
        hut.group(6, 3, 9);
        hut.end(1);
        Checks.due("it is there", hut.groupOf(0, 4), 1);
        Checks.due("off(0)", hut.off(0), 1);
        Checks.due("it is not booked", hut.groupOf(0, 4), Checks.INVALID);
        Checks.due("it wants nothing", hut.wanted(0), 0);
        hut.end(1);
        Checks.due("it pays no more", hut.count(16), 4);
        Checks.due("off of one that is not there yet", hut.off(1), 0);
        hut.end(3);
        Checks.due("it never comes", hut.count(16), 4);
    }

    @Edge(promise = 7, says = "`group`: its number")
    static void argumentGroupOfOff() {
        HutLoaves hut = withGroups(1);
        for (int group : NO_SUCH_GROUPS) {
            Checks.due("off(" + group + ")", hut.off(group), Checks.INVALID);
        }
        HutLoaves full = withGroups(10);
        Edges.outside("off(group)", full::off, 0, 9);
        Checks.due("off(0)", full.off(0), 9);
        Checks.due("by its number, not its place", full.off(9), 8);
        Checks.due("the second one stays", full.groupOf(1, 0), 2);
        Checks.due("the ninth, too", full.groupOf(8, 0), 9);
    }

    @Edge(promise = 7, says = "Returns how many groups are booked then;")
    static void offReturnsHowMany() {
        HutLoaves hut = withGroups(10);
        int[] order = {9, 0, 4, 5, 3, 8, 1, 2, 7, 6};
        for (int k = 0; k < order.length; k++) {
            Checks.due("off(" + order[k] + ")", hut.off(order[k]), 9 - k);
            Checks.due("booked", hut.count(1), 9 - k);
        }
    }

    @Edge(promise = 7, says = "INVALID_ARGUMENT.")
    static void offOfNoGroup() {
        HutLoaves hut = Checks.withoutSnow();
        Checks.due("without groups", hut.off(0), Checks.INVALID);
        hut.group(1, 0, 1);
        Checks.due("the next number", hut.off(1), Checks.INVALID);
        hut.off(0);
        Checks.due("one that is off", hut.off(0), Checks.INVALID);
        hut.group(1, 0, 1);
        hut.end(1);
        Checks.due("one that is gone", hut.off(1), Checks.INVALID);
        hut.group(1, 0, 1);
        hut.undo();
        Checks.due("one that was undone", hut.off(2), Checks.INVALID);
    }

    // ---- set

    private static void setting(int what, int lowest, int highest, int first) {
        HutLoaves hut = new HutLoaves();
        Checks.due("count of it at first", hut.count(20 + what), first);
        Checks.due("below its range", hut.set(what, lowest - 1), Checks.INVALID);
        Checks.due("above its range", hut.set(what, highest + 1), Checks.INVALID);
        Checks.due("it stays", hut.count(20 + what), first);
        Checks.due("the lowest", hut.set(what, lowest), first);
        Checks.due("count of it", hut.count(20 + what), lowest);
        Checks.due("the highest", hut.set(what, highest), lowest);
        Checks.due("count of it", hut.count(20 + what), highest);
        HutLoaves other = new HutLoaves();
        Edges.outside("set(" + what + ", value)", value -> other.set(what, value), lowest, highest);
        Edges.taken("set(" + what + ", value)", value -> new HutLoaves().set(what, value), lowest, highest);
    }

    @Edge(promise = 9, says = "The settings are (in parentheses: range; first value): 0 the price of a loaf (1 to 9; 2),")
    static void settingPrice() {
        setting(0, 1, 9, 2);
        HutLoaves hut = new HutLoaves();
        hut.mule(1, 1);
        Checks.due("a loaf for 2 at first", hut.send(0, 1), 2);
    }

    @Edge(promise = 9, says = "1 credit (10 to 500; 100),")
    static void settingCredit() {
        setting(1, 10, 500, 100);
        HutLoaves hut = Checks.withoutSnow();
        hut.mule(30, 1);
        hut.set(0, 5);
        Checks.due("105 of 100 at first", hut.why(0, 21), 3);
        Checks.due("100 of 100", hut.why(0, 20), 0);
    }

    @Edge(promise = 9, says = "2 fresh days (0 to 15; 3),")
    static void settingFreshDays() {
        setting(2, 0, 15, 3);
        HutLoaves hut = Checks.withMules(1);
        hut.send(0, 1);
        hut.end(3);
        Checks.due("not stale at 3 at first", hut.count(8), 0);
        hut.end(1);
        Checks.due("stale at 4", hut.count(8), 1);
    }

    @Edge(promise = 9, says = "3 snow (0 to 90; 10).")
    static void settingSnow() {
        setting(3, 0, 90, 10);
        HutLoaves hut = Edges.onDay(8);
        Checks.due("no snow by 10 on the days 0 to 7", hut.count(14), 0);
        hut.end(1);
        Checks.due("x of 8 is snow", hut.count(14), 1);
        hut = Edges.onDay(62);
        int before = hut.count(14);
        hut.end(1);
        Checks.due("x of 10 is none", hut.count(4) % 100, 10);
        Checks.due("so it is not counted", hut.count(14), before);
    }

    @Edge(promise = 9, says = "Sets a setting (a debt that is above it stays).")
    static void setSets() {
        HutLoaves hut = Checks.withMules(2);
        hut.send(0, 30);
        Checks.due("set(1, 30)", hut.set(1, 30), 500);
        Checks.due("the debt is as great", hut.count(6), 30);
        Checks.due("set(1, 29)", hut.set(1, 29), 30);
        Checks.due("the debt is above it, and stays", hut.count(6), 30);
        Checks.due("set(1, 10)", hut.set(1, 10), 29);
        Checks.due("and stays", hut.count(6), 30);
        Checks.due("nothing more can be sent", hut.send(1, 1), Checks.IMPOSSIBLE);
        Checks.due("the price stands", hut.count(20), 1);
        Checks.due("the fresh days stand", hut.count(22), 3);
        Checks.due("the snow stands", hut.count(23), 0);
    }

    @Edge(promise = 9, says = "`what`: 0 to 3")
    static void argumentWhatOfSet() {
        Edges.outside("set(what, 10)", what -> new HutLoaves().set(what, 10), 0, 3);
        HutLoaves hut = new HutLoaves();
        int[] values = {9, 11, 12, 13};
        for (int what = 0; what <= 3; what++) {
            hut.set(what, values[what]);
        }
        for (int what = 0; what <= 3; what++) {
            Checks.due("count(" + (20 + what) + ")", hut.count(20 + what), values[what]);
        }
    }

    @Edge(promise = 9, says = "`value`: a value in its range")
    static void argumentValueOfSet() {
        HutLoaves hut = new HutLoaves();
        Checks.due("0 is none of the price", hut.set(0, 0), Checks.INVALID);
        Checks.due("10 is none of the price", hut.set(0, 10), Checks.INVALID);
        Checks.due("9 is none of the credit", hut.set(1, 9), Checks.INVALID);
        Checks.due("10 is one of the credit", hut.set(1, 10), 100);
        Checks.due("0 is one of the fresh days", hut.set(2, 0), 3);
        Checks.due("16 is none of the fresh days", hut.set(2, 16), Checks.INVALID);
        Checks.due("-1 is none of the snow", hut.set(3, -1), Checks.INVALID);
        Checks.due("16 is one of the snow", hut.set(3, 16), 10);
        Checks.due("91 is none of the snow", hut.set(3, 91), Checks.INVALID);
    }

    @Edge(promise = 9, says = "Returns what it was;")
    static void setReturnsWhatItWas() {
        HutLoaves hut = new HutLoaves();
        Checks.due("the first value", hut.set(1, 10), 100);
        Checks.due("the lowest", hut.set(1, 500), 10);
        Checks.due("one that is refused", hut.set(1, 501), Checks.INVALID);
        Checks.due("the highest", hut.set(1, 500), 500);
        Checks.due("the same", hut.set(1, 77), 500);
        hut.undo();
        Checks.due("after undo", hut.set(1, 78), 500);
    }

    @Edge(promise = 9, says = "INVALID_ARGUMENT if an argument is out of range.")
    static void setOutOfRange() {
        HutLoaves hut = new HutLoaves();
        Checks.due("no such setting", hut.set(4, 10), Checks.INVALID);
        Checks.due("below the settings", hut.set(-1, 10), Checks.INVALID);
        Checks.due("no such value", hut.set(2, -1), Checks.INVALID);
        Checks.due("neither", hut.set(4, -1), Checks.INVALID);
        Checks.due("states", hut.count(18), 0);
    }

    // ---- groupOf

    @Edge(promise = 11, says = "Returns something of a group.")
    static void groupOfEachGroup() {
        HutLoaves hut = withGroups(10);
        for (int group = 0; group < 10; group++) {
            Checks.due("persons of " + group, hut.groupOf(group, 0), 1 + group);
        }
    }

    @Edge(promise = 11, says = "`group`: its number")
    static void argumentGroupOfGroupOf() {
        HutLoaves hut = withGroups(1);
        for (int group : NO_SUCH_GROUPS) {
            Checks.due("groupOf(" + group + ", 0)", hut.groupOf(group, 0), Checks.INVALID);
        }
        hut.group(8, 0, 1);
        hut.off(0);
        Checks.due("one that is off", hut.groupOf(0, 0), Checks.INVALID);
        Checks.due("by its number, not its place", hut.groupOf(1, 0), 8);
        hut.end(1);
        Checks.due("one that is gone", hut.groupOf(1, 0), Checks.INVALID);
    }

    @Edge(promise = 11, says = "`what`: 0: its persons;")
    static void itsPersons() {
        HutLoaves hut = new HutLoaves();
        hut.group(1, 2, 3);
        hut.group(12, 2, 3);
        Checks.due("the fewest", hut.groupOf(0, 0), 1);
        Checks.due("the most", hut.groupOf(1, 0), 12);
    }

    @Edge(promise = 11, says = "1: the day on which it comes;")
    static void itsDay() {
        HutLoaves hut = Edges.onDay(60);
        hut.group(5, 0, 3);
        hut.group(5, 60, 3);
        Checks.due("today", hut.groupOf(0, 1), 60);
        Checks.due("in 60 days", hut.groupOf(1, 1), 120);
        hut.end(1);
        Checks.due("the same a day later", hut.groupOf(0, 1), 60);
        Checks.due("the same a day later", hut.groupOf(1, 1), 120);
    }

    @Edge(promise = 11, says = "2: its nights;")
    static void itsNights() {
        HutLoaves hut = Checks.withoutSnow();
        hut.group(5, 0, 9);
        hut.group(5, 7, 1);
        Checks.due("the most", hut.groupOf(0, 2), 9);
        Checks.due("the fewest", hut.groupOf(1, 2), 1);
        hut.end(8);
        Checks.due("all its nights, on the last one", hut.groupOf(0, 2), 9);
    }

    @Edge(promise = 11, says = "3: the loaves that it wants a day;")
    static void itsLoaves() {
        HutLoaves hut = new HutLoaves();
        hut.group(1, 5, 9);
        hut.group(11, 5, 9);
        hut.group(12, 5, 9);
        Checks.due("of one person", hut.groupOf(0, 3), 1);
        Checks.due("of 11 persons", hut.groupOf(1, 3), 6);
        Checks.due("of 12 persons", hut.groupOf(2, 3), 6);
    }

    @Edge(promise = 11, says = "4: 1 if it is there on the day of now, otherwise 0;")
    static void itIsThere() {
        HutLoaves hut = Checks.withoutSnow();
        hut.group(5, 0, 2);
        hut.group(5, 1, 1);
        hut.group(5, 2, 1);
        int[][] there = {{1, 0, 0}, {1, 1, 0}, {Checks.INVALID, Checks.INVALID, 1}};
        for (int day = 0; day < there.length; day++) {
            for (int group = 0; group < 3; group++) {
                Checks.due("group " + group + " on the day " + day, hut.groupOf(group, 4), there[day][group]);
            }
            hut.end(1);
        }
    }

    @Edge(promise = 11, says = "5: what it paid so far;")
    static void itPaid() {
        HutLoaves hut = Checks.withMules(1);
        hut.send(0, 2);
        hut.group(2, 0, 9);
        hut.group(3, 9, 1);
        int[] paid = {0, 2, 8, 14, 16};
        for (int day = 0; day < paid.length; day++) {
            Checks.due("paid by the day " + day, hut.groupOf(0, 5), paid[day]);
            Checks.due("the other one pays nothing yet", hut.groupOf(1, 5), 0);
            hut.end(1);
        }
    }

    @Edge(promise = 11, says = "6: days on which it was hungry so far")
    static void itWasHungry() {
        HutLoaves hut = Checks.withMules(1);
        hut.send(0, 2);
        hut.group(2, 0, 9);
        hut.group(3, 9, 1);
        int[] hungry = {0, 1, 1, 1, 2};
        for (int day = 0; day < hungry.length; day++) {
            Checks.due("hungry by the day " + day, hut.groupOf(0, 6), hungry[day]);
            Checks.due("the other one is not yet", hut.groupOf(1, 6), 0);
            hut.end(1);
        }
        hut.end(4);
        Checks.due("of one that is gone", hut.groupOf(0, 6), Checks.INVALID);
    }

    @Edge(promise = 11, says = "5: what it paid so far; 6: days on which it was hungry so far")
    static void nothingSoFarOfNewOnes() {
        HutLoaves hut = Checks.withoutSnow();
        for (int k = 0; k < 10; k++) {
            hut.group(12, 0, 1 + k % 2);
        }
        hut.end(1);
        hut.off(1);
        for (int k = 10; k < 16; k++) {
            Checks.due("group", hut.group(12, 0, 1), k);
            Checks.due("paid by " + k, hut.groupOf(k, 5), 0);
            Checks.due("hungry days of " + k, hut.groupOf(k, 6), 0);
        }
        Checks.due("paid by one that was there", hut.groupOf(3, 5), 12);
        Checks.due("hungry days of it", hut.groupOf(3, 6), 1);
    }

    @Edge(promise = 11, says = "Returns the number;")
    static void groupOfReturnsTheNumber() {
        HutLoaves hut = Checks.withMules(1);
        hut.send(0, 30);
        hut.end(2);
        hut.group(12, 0, 9);
        hut.end(3);
        int[] want = {12, 2, 9, 6, 1, 96, 0};
        for (int what = 0; what < want.length; what++) {
            Checks.due("groupOf(0, " + what + ")", hut.groupOf(0, what), want[what]);
        }
    }

    @Edge(promise = 11, says = "INVALID_ARGUMENT if an argument is out of range.")
    static void groupOfOutOfRange() {
        HutLoaves hut = withGroups(2);
        Edges.outside("groupOf(0, what)", what -> hut.groupOf(0, what), 0, 6);
        Checks.due("no such group", hut.groupOf(2, 0), Checks.INVALID);
        Checks.due("neither", hut.groupOf(2, 7), Checks.INVALID);
        Checks.due("without groups", new HutLoaves().groupOf(0, 0), Checks.INVALID);
    }

    // ---- number

    @Edge(promise = 12, says = "Returns the number of a group that is booked.")
    static void numberOfBookedOnes() {
        HutLoaves hut = Checks.withoutSnow();
        hut.group(1, 0, 1);
        hut.group(1, 60, 1);
        Checks.due("number(0)", hut.number(0), 0);
        hut.end(1);
        Checks.due("the one that is booked yet", hut.number(0), 1);
        Checks.due("no other one", hut.number(1), Checks.MISSING);
    }

    @Edge(promise = 12, says = "`index`: 0 for the lowest one, and so on")
    static void argumentIndex() {
        HutLoaves hut = withGroups(10);
        hut.off(0);
        hut.off(5);
        hut.group(1, 0, 1);
        int[] want = {1, 2, 3, 4, 6, 7, 8, 9, 10};
        for (int index = 0; index < want.length; index++) {
            Checks.due("number(" + index + ")", hut.number(index), want[index]);
        }
    }

    @Edge(promise = 12, says = "Returns the group;")
    static void numberReturnsTheGroup() {
        HutLoaves hut = withGroups(10);
        for (int index = 0; index < 10; index++) {
            Checks.due("number(" + index + ")", hut.number(index), index);
            Checks.due("persons of it", hut.groupOf(hut.number(index), 0), index + 1);
        }
    }

    @Edge(promise = 12, says = "INVALID_ARGUMENT if index is below 0;")
    static void indexBelowZero() {
        HutLoaves hut = withGroups(10);
        Checks.due("number(-1)", hut.number(-1), Checks.INVALID);
        Checks.due("number(-10)", hut.number(-10), Checks.INVALID);
        Checks.due("number(min)", hut.number(Integer.MIN_VALUE), Checks.INVALID);
        Checks.due("number(-1) without groups", new HutLoaves().number(-1), Checks.INVALID);
    }

    @Edge(promise = 12, says = "NOT_FOUND if there are not so many.")
    static void notSoManyGroups() {
        Checks.due("number(0) without groups", new HutLoaves().number(0), Checks.MISSING);
        HutLoaves hut = withGroups(10);
        Checks.due("number(10) of ten", hut.number(10), Checks.MISSING);
        Checks.due("number(256)", hut.number(256), Checks.MISSING);
        Checks.due("number(max)", hut.number(Integer.MAX_VALUE), Checks.MISSING);
        hut.off(3);
        Checks.due("number(9) of nine", hut.number(9), Checks.MISSING);
        Checks.due("number(8) of nine", hut.number(8), 9);
    }

    // ---- wanted

    @Edge(promise = 15, says = "Tells how many loaves are wanted on a day, by the groups that are booked.")
    static void wantedByBookedOnes() {
        HutLoaves hut = new HutLoaves();
        Checks.due("without groups", hut.wanted(0), 0);
        for (int k = 0; k < 10; k++) {
            hut.group(12, 1, 1);
        }
        Checks.due("the day ahead", hut.wanted(0), 0);
        Checks.due("the most", hut.wanted(1), 60);
        Checks.due("the day after", hut.wanted(2), 0);
        hut.off(4);
        Checks.due("with one off", hut.wanted(1), 54);
    }

    @Edge(promise = 15, says = "`days`: 0 to 60: so many days from now")
    static void argumentDaysOfWanted() {
        HutLoaves hut = Edges.onDay(3);
        hut.group(1, 0, 1);
        hut.group(3, 60, 9);
        Checks.due("wanted(0)", hut.wanted(0), 1);
        Checks.due("wanted(1)", hut.wanted(1), 0);
        Checks.due("wanted(59)", hut.wanted(59), 0);
        Checks.due("wanted(60)", hut.wanted(60), 2);
        Edges.taken("wanted(days)", hut::wanted, 0, 60);
        Edges.outside("wanted(days)", hut::wanted, 0, 60);
    }

    @Edge(promise = 15, says = "Returns how many;")
    static void wantedReturnsHowMany() {
        HutLoaves hut = new HutLoaves();
        int[] want = {1, 7, 9, 2, 0};
        hut.group(1, 0, 2);
        hut.group(12, 1, 2);
        hut.group(3, 2, 2);
        hut.group(1, 2, 1);
        for (int days = 0; days < want.length; days++) {
            Checks.due("wanted(" + days + ")", hut.wanted(days), want[days]);
        }
    }

    @Edge(promise = 15, says = "INVALID_ARGUMENT if days is out of range.")
    static void wantedOutOfRange() {
        HutLoaves hut = withGroups(3);
        Checks.due("wanted(-1)", hut.wanted(-1), Checks.INVALID);
        Checks.due("wanted(61)", hut.wanted(61), Checks.INVALID);
        Checks.due("wanted(max)", hut.wanted(Integer.MAX_VALUE), Checks.INVALID);
        Checks.due("without groups", new HutLoaves().wanted(61), Checks.INVALID);
    }
}
