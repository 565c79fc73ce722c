import java.util.function.ToIntFunction;

/** Promises 1 and 21, and what the terms say of changes and errors: a test for each sentence. */
public final class ChangesEdgesTest {
    private static final int CHANGES = 10;

    public static void main(String[] args) {
        Edges.run(ChangesEdgesTest.class);
    }

    // ---- a new object

    @Edge(promise = 1, says = "Creates a hut without bread on the day 0.")
    static void withoutBreadOnTheDayZero() {
        HutLoaves hut = new HutLoaves();
        Checks.due("the day", hut.count(3), 0);
        Checks.due("loaves", hut.count(7), 0);
        for (int age = 0; age <= 20; age++) {
            Checks.due("loaves(" + age + ")", hut.loaves(age), 0);
        }
        Checks.due("mean()", hut.mean(), Checks.MISSING);
        HutLoaves other = new HutLoaves();
        other.mule(30, 9);
        other.send(0, 30);
        other.end(2);
        other.type('d');
        Everything.same("making another one", hut, new HutLoaves());
    }

    @Edge(promise = 1, says = "An object is used for at most 512 calls after it has been made;")
    static void fiveHundredTwelveCalls() {
        HutLoaves hut = new HutLoaves();
        int calls = 0;
        for (int group = 0; group < 254; group++) {
            Checks.due("group", hut.group(12, 60, 9), group);
            Checks.due("off", hut.off(group), 0);
            calls += 2;
        }
        Checks.due("call 509", hut.group(1, 0, 1), 254);
        Checks.due("call 510", hut.end(60), 0);
        Checks.due("call 511", hut.undo(), 3);
        Checks.due("call 512", hut.groupOf(254, 4), 1);
        Checks.due("calls ahead", calls, 508);
    }

    // ---- the constants

    @Edge(promise = 2, says = "`INVALID_ARGUMENT = -1000001`: An argument is out of its range, or there is no such mule or"
        + " group.")
    static void constantInvalidArgument() {
        Checks.due("INVALID_ARGUMENT", HutLoaves.INVALID_ARGUMENT, -1000001);
        Checks.due("out of its range", new HutLoaves().mule(0, 1), -1000001);
        Checks.due("no such mule", new HutLoaves().rest(0), -1000001);
        Checks.due("no such group", new HutLoaves().off(0), -1000001);
    }

    @Edge(promise = 5, says = "`NOT_POSSIBLE = -1000002`: The call is not possible in the present state.")
    static void constantNotPossible() {
        Checks.due("NOT_POSSIBLE", HutLoaves.NOT_POSSIBLE, -1000002);
        Checks.due("pay(1)", new HutLoaves().pay(1), -1000002);
    }

    @Edge(promise = 2, says = "`LIMIT_REACHED = -1000003`: A fixed limit has been reached.")
    static void constantLimitReached() {
        Checks.due("LIMIT_REACHED", HutLoaves.LIMIT_REACHED, -1000003);
        Checks.due("a fifth mule", Checks.withMules(4).mule(1, 1), -1000003);
    }

    @Edge(promise = 12, says = "`NOT_FOUND = -1000004`: There is no such value.")
    static void constantNotFound() {
        Checks.due("NOT_FOUND", HutLoaves.NOT_FOUND, -1000004);
        Checks.due("number(0)", new HutLoaves().number(0), -1000004);
    }

    // ---- changes

    /** A hut in which each of the ten changes is possible, with three states in its history. */
    private static HutLoaves readyHut() {
        HutLoaves hut = new HutLoaves();
        hut.mule(30, 9);
        hut.mule(30, 9);
        Checks.write(hut, "g5,0,9;s0,20;d1;");
        Checks.due("play()", hut.play(), 3);
        Checks.write(hut, "g1,0,1;d2;");
        Checks.due("states", hut.count(18), 3);
        return hut;
    }

    private static int change(HutLoaves hut, int which) {
        switch (which) {
            case 0:
                return hut.mule(3, 3);
            case 1:
                return hut.send(1, 30);
            case 2:
                return hut.rest(1);
            case 3:
                return hut.group(12, 60, 9);
            case 4:
                return hut.off(0);
            case 5:
                return hut.pay(5);
            case 6:
                return hut.end(60);
            case 7:
                return hut.set(2, 0);
            case 8:
                return hut.play();
            default:
                hut.clearText();
                return hut.play();
        }
    }

    @Edge(promise = 21, says = "The changes are the calls of mule, send, rest, group, off, pay, end, set and play that"
        + " return no error.")
    static void eachChangeIsOne() {
        for (int which = 0; which < CHANGES; which++) {
            HutLoaves hut = readyHut();
            int answer = change(hut, which);
            Checks.due("change " + which + " is possible", answer >= 0 ? 1 : 0, 1);
            Checks.due("states after the change " + which, hut.count(18), 4);
        }
        HutLoaves hut = new HutLoaves();
        hut.set(0, 2);
        Checks.due("one that sets the same", hut.count(18), 1);
        hut.mule(30, 9);
        hut.rest(0);
        Checks.due("a rest of one that has rested", hut.count(18), 3);
        hut.play();
        Checks.due("no orders", hut.count(18), 4);
    }

    @Edge(promise = 21, says = "The changes are the calls of mule, send, rest, group, off, pay, end, set and play that"
        + " return no error.")
    static void otherCallsAreNone() {
        HutLoaves hut = new HutLoaves();
        hut.mule(1, 1);
        Checks.due("states", hut.count(18), 1);
        hut.type('d');
        hut.clearText();
        hut.fault(0);
        hut.would(60, 0);
        hut.hungry();
        hut.mean();
        hut.next(0);
        hut.why(0, 1);
        hut.wanted(0);
        hut.muleOf(0, 0);
        hut.groupOf(0, 0);
        hut.number(0);
        hut.loaves(0);
        Checks.due("states after those that are none", hut.count(18), 1);
        Checks.due("refused", hut.mule(0, 0), Checks.INVALID);
        Checks.due("refused", hut.send(0, 2), Checks.IMPOSSIBLE);
        Checks.due("refused", hut.rest(1), Checks.INVALID);
        Checks.due("refused", hut.group(0, 0, 0), Checks.INVALID);
        Checks.due("refused", hut.off(0), Checks.INVALID);
        Checks.due("refused", hut.pay(1), Checks.IMPOSSIBLE);
        Checks.due("refused", hut.end(0), Checks.INVALID);
        Checks.due("refused", hut.set(0, 0), Checks.INVALID);
        hut.type('d');
        Checks.due("refused", hut.play(), Checks.IMPOSSIBLE);
        Checks.due("states after those that are refused", hut.count(18), 1);
        Checks.due("undo()", hut.undo(), 0);
        Checks.due("undo is none", hut.count(18), 0);
    }

    @Edge(promise = 21, says = "A history of at most 4 states is kept:")
    static void atMostFourStates() {
        HutLoaves hut = new HutLoaves();
        for (int k = 1; k <= 9; k++) {
            hut.end(1);
            Checks.due("states after " + k, hut.count(18), Math.min(4, k));
        }
        for (int left = 3; left >= 0; left--) {
            Checks.due("undo()", hut.undo(), left);
        }
        Checks.due("a fifth undo()", hut.undo(), Checks.IMPOSSIBLE);
    }

    @Edge(promise = 21, says = "each change records everything before it but the text,")
    static void everythingIsRecorded() {
        for (int which = 0; which < CHANGES; which++) {
            HutLoaves hut = readyHut();
            HutLoaves twin = readyHut();
            int answer = change(hut, which);
            Checks.due("change " + which + " is possible", answer >= 0 ? 1 : 0, 1);
            if (which == 9) {
                twin.clearText();
            }
            Checks.due("undo of the change " + which, hut.undo(), 3);
            Everything.same("undo of the change " + which, hut, twin);
        }
    }

    @Edge(promise = 21, says = "each change records everything before it but the text,")
    static void theDayOfLoavesOnTheirWayIsRecorded() {
        HutLoaves hut = new HutLoaves();
        hut.set(3, 0);
        hut.mule(30, 9);
        hut.end(3);
        hut.send(0, 5);
        hut.end(4);
        hut.send(0, 6);
        hut.undo();
        hut.undo();
        hut.end(2);
        Checks.due("those that were sent first", hut.loaves(2), 5);
        hut.undo();
        hut.undo();
        hut.end(5);
        hut.send(0, 7);
        hut.end(2);
        Checks.due("those that were sent in their place", hut.loaves(2), 7);
    }

    @Edge(promise = 21, says = "each change records everything before it but the text,")
    static void theTextIsNotRecorded() {
        HutLoaves hut = new HutLoaves();
        Checks.write(hut, "d1;");
        hut.mule(1, 1);
        Checks.write(hut, "d12;d3");
        Checks.due("undo()", hut.undo(), 0);
        Checks.due("length", hut.count(19), 6);
        Checks.due("its fault", hut.fault(0), 4);
        hut.mule(1, 1);
        hut.clearText();
        hut.undo();
        Checks.due("length", hut.count(19), 0);
    }

    @Edge(promise = 21, says = "and if there are 5 states then, the oldest one is dropped.")
    static void theOldestOfFiveIsDropped() {
        HutLoaves hut = new HutLoaves();
        for (int day = 1; day <= 5; day++) {
            hut.end(1);
        }
        for (int day = 4; day >= 1; day--) {
            Checks.due("undo()", hut.undo(), day - 1);
            Checks.due("the day", hut.count(3), day);
        }
        Checks.due("the state of the day 0 is dropped", hut.undo(), Checks.IMPOSSIBLE);
        Checks.due("the day", hut.count(3), 1);
        hut.end(1);
        hut.end(1);
        hut.undo();
        for (int day = 3; day <= 6; day++) {
            hut.end(1);
        }
        Checks.due("the day", hut.count(3), 6);
        for (int day = 5; day >= 2; day--) {
            hut.undo();
            Checks.due("the day", hut.count(3), day);
        }
        Checks.due("the state of the day 1 is dropped", hut.undo(), Checks.IMPOSSIBLE);
    }

    // ---- errors

    @Edge(promise = 3, says = "If several errors apply to a call, INVALID_ARGUMENT is returned rather than NOT_POSSIBLE,")
    static void invalidRatherThanNotPossible() {
        HutLoaves hut = Checks.withMules(1);
        hut.send(0, 30);
        Checks.due("send of one that is away", hut.send(0, 1), Checks.IMPOSSIBLE);
        Checks.due("with no loaves", hut.send(0, 0), Checks.INVALID);
        Checks.due("with 31 loaves", hut.send(0, 31), Checks.INVALID);
        Checks.due("pay without money", hut.pay(500), Checks.IMPOSSIBLE);
        Checks.due("pay of too much", hut.pay(501), Checks.INVALID);
        Checks.due("pay of nothing", hut.pay(0), Checks.INVALID);
    }

    @Edge(promise = 6, says = "INVALID_ARGUMENT is returned rather than NOT_POSSIBLE, NOT_POSSIBLE rather than"
        + " LIMIT_REACHED, and LIMIT_REACHED rather than NOT_FOUND.")
    static void invalidRatherThanLimitReached() {
        HutLoaves hut = Checks.withMules(4);
        Checks.due("a fifth mule", hut.mule(30, 9), Checks.LIMIT);
        Checks.due("too great a load", hut.mule(31, 9), Checks.INVALID);
        Checks.due("too great a strength", hut.mule(30, 10), Checks.INVALID);
        for (int k = 0; k < 10; k++) {
            hut.group(1, 0, 1);
        }
        Checks.due("an eleventh group", hut.group(12, 60, 9), Checks.LIMIT);
        Checks.due("no persons", hut.group(0, 60, 9), Checks.INVALID);
        Checks.due("too far ahead", hut.group(12, 61, 9), Checks.INVALID);
        Checks.due("no nights", hut.group(12, 60, 0), Checks.INVALID);
        for (int k = 0; k < 60; k++) {
            hut.type(';');
        }
        Checks.due("a 61st character", hut.type(126), Checks.LIMIT);
        Checks.due("one above the range", hut.type(127), Checks.INVALID);
        Checks.due("one below the range", hut.type(31), Checks.INVALID);
        HutLoaves late = Edges.onDay(9999);
        Checks.due("a day above 9999", late.end(1), Checks.LIMIT);
        Checks.due("no days", late.end(0), Checks.INVALID);
        Checks.due("61 days", late.end(61), Checks.INVALID);
    }

    @Edge(promise = 17, says = "INVALID_ARGUMENT is returned rather than NOT_POSSIBLE, NOT_POSSIBLE rather than"
        + " LIMIT_REACHED, and LIMIT_REACHED rather than NOT_FOUND.")
    static void invalidRatherThanNotFound() {
        HutLoaves hut = new HutLoaves();
        Checks.due("next(1)", hut.next(1), Checks.MISSING);
        Checks.due("next(2)", hut.next(2), Checks.INVALID);
        Checks.due("number(0)", hut.number(0), Checks.MISSING);
        Checks.due("number(-1)", hut.number(-1), Checks.INVALID);
        Checks.due("fault(2)", hut.fault(2), Checks.MISSING);
        Checks.due("fault(3)", hut.fault(3), Checks.INVALID);
    }

    /** With four mules, ten groups, a full history, and a text that has a fault. */
    private static HutLoaves fullHut() {
        HutLoaves hut = Checks.withMules(4);
        for (int k = 0; k < 10; k++) {
            hut.group(1 + k, k, 9);
        }
        hut.send(1, 30);
        hut.end(2);
        hut.send(2, 7);
        Checks.write(hut, "d1;s2,1;");
        return hut;
    }

    private static void changesNothing(String call, ToIntFunction<HutLoaves> made, int error) {
        Edges.refused(call, ChangesEdgesTest::fullHut, made, error);
    }

    @Edge(promise = 2, says = "A call that returns an error changes nothing.")
    static void refusedMule() {
        changesNothing("mule(31, 9)", hut -> hut.mule(31, 9), Checks.INVALID);
        changesNothing("mule(30, 9)", hut -> hut.mule(30, 9), Checks.LIMIT);
    }

    @Edge(promise = 3, says = "A call that returns an error changes nothing.")
    static void refusedSend() {
        changesNothing("send(4, 1)", hut -> hut.send(4, 1), Checks.INVALID);
        changesNothing("send(0, 31)", hut -> hut.send(0, 31), Checks.INVALID);
        changesNothing("send(1, 1)", hut -> hut.send(1, 1), Checks.IMPOSSIBLE);
        Edges.refused("send(0, 11)", () -> {
            HutLoaves hut = fullHut();
            hut.set(1, 10);
            return hut;
        }, hut -> hut.send(0, 11), Checks.IMPOSSIBLE);
    }

    @Edge(promise = 4, says = "A call that returns an error changes nothing.")
    static void refusedRest() {
        changesNothing("rest(-1)", hut -> hut.rest(-1), Checks.INVALID);
        changesNothing("rest(1)", hut -> hut.rest(1), Checks.IMPOSSIBLE);
        changesNothing("rest(2)", hut -> hut.rest(2), Checks.IMPOSSIBLE);
    }

    @Edge(promise = 5, says = "A call that returns an error changes nothing.")
    static void refusedPay() {
        changesNothing("pay(0)", hut -> hut.pay(0), Checks.INVALID);
        changesNothing("pay(501)", hut -> hut.pay(501), Checks.INVALID);
        changesNothing("pay(500)", hut -> hut.pay(500), Checks.IMPOSSIBLE);
    }

    @Edge(promise = 6, says = "A call that returns an error changes nothing.")
    static void refusedGroup() {
        changesNothing("group(13, 0, 1)", hut -> hut.group(13, 0, 1), Checks.INVALID);
        changesNothing("group(1, 0, 1)", hut -> hut.group(1, 0, 1), Checks.LIMIT);
    }

    @Edge(promise = 7, says = "A call that returns an error changes nothing.")
    static void refusedOff() {
        changesNothing("off(10)", hut -> hut.off(10), Checks.INVALID);
        changesNothing("off(-1)", hut -> hut.off(-1), Checks.INVALID);
    }

    @Edge(promise = 8, says = "A call that returns an error changes nothing.")
    static void refusedEnd() {
        changesNothing("end(0)", hut -> hut.end(0), Checks.INVALID);
        changesNothing("end(61)", hut -> hut.end(61), Checks.INVALID);
        HutLoaves late = Edges.onDay(9990);
        late.group(12, 0, 9);
        HutLoaves twin = Edges.onDay(9990);
        twin.group(12, 0, 9);
        Checks.due("end(10)", late.end(10), Checks.LIMIT);
        Everything.same("end(10)", late, twin);
    }

    @Edge(promise = 9, says = "A call that returns an error changes nothing.")
    static void refusedSet() {
        changesNothing("set(4, 1)", hut -> hut.set(4, 1), Checks.INVALID);
        changesNothing("set(0, 10)", hut -> hut.set(0, 10), Checks.INVALID);
        changesNothing("set(3, 91)", hut -> hut.set(3, 91), Checks.INVALID);
    }

    @Edge(promise = 21, says = "A call that returns an error changes nothing.")
    static void refusedUndo() {
        HutLoaves hut = fullHut();
        for (int k = 0; k < 4; k++) {
            hut.undo();
        }
        HutLoaves twin = fullHut();
        for (int k = 0; k < 4; k++) {
            twin.undo();
        }
        Checks.due("undo()", hut.undo(), Checks.IMPOSSIBLE);
        Everything.same("undo()", hut, twin);
    }

    @Edge(promise = 22, says = "A call that returns an error changes nothing.")
    static void refusedType() {
        changesNothing("type(31)", hut -> hut.type(31), Checks.INVALID);
        changesNothing("type(127)", hut -> hut.type(127), Checks.INVALID);
        HutLoaves hut = new HutLoaves();
        for (int k = 0; k < 20; k++) {
            hut.type('d');
            hut.type('1');
            hut.type(';');
        }
        Checks.due("a 61st character", hut.type('q'), Checks.LIMIT);
        Checks.due("length", hut.count(19), 60);
        Checks.due("no fault", hut.fault(0), Checks.MISSING);
        Checks.due("play()", hut.play(), 20);
    }

    @Edge(promise = 25, says = "A call that returns an error changes nothing.")
    static void refusedPlay() {
        changesNothing("play()", HutLoaves::play, Checks.IMPOSSIBLE);
    }

    @Edge(promise = 10, says = "If there is no mule or group with a certain number, this is INVALID_ARGUMENT.")
    static void noSuchMuleOrGroup() {
        HutLoaves hut = Checks.withMules(3);
        int[] noMules = {-1, 3, 4, 256, Integer.MIN_VALUE, Integer.MAX_VALUE};
        for (int mule : noMules) {
            Checks.due("send", hut.send(mule, 1), Checks.INVALID);
            Checks.due("rest", hut.rest(mule), Checks.INVALID);
            Checks.due("muleOf", hut.muleOf(mule, 0), Checks.INVALID);
            Checks.due("why", hut.why(mule, 1), Checks.INVALID);
        }
        hut.group(1, 0, 1);
        hut.group(1, 0, 2);
        hut.group(1, 9, 1);
        hut.off(2);
        hut.end(1);
        int[] noGroups = {-1, 0, 2, 3, 257, Integer.MIN_VALUE, Integer.MAX_VALUE};
        for (int group : noGroups) {
            Checks.due("off(" + group + ")", hut.off(group), Checks.INVALID);
            Checks.due("groupOf(" + group + ", 0)", hut.groupOf(group, 0), Checks.INVALID);
        }
        Checks.due("there is one", hut.groupOf(1, 0), 1);
    }

    // ---- undo

    @Edge(promise = 21, says = "Restores the latest state of the history, which is removed from it.")
    static void undoRestoresTheLatest() {
        HutLoaves hut = new HutLoaves();
        hut.end(1);
        hut.end(2);
        hut.end(4);
        hut.undo();
        Checks.due("the day", hut.count(3), 3);
        Checks.due("states", hut.count(18), 2);
        hut.end(8);
        Checks.due("the day", hut.count(3), 11);
        hut.undo();
        Checks.due("the day", hut.count(3), 3);
        hut.undo();
        Checks.due("the day", hut.count(3), 1);
        hut.undo();
        Checks.due("the day", hut.count(3), 0);
        Checks.due("x", hut.count(4), 1);
    }

    @Edge(promise = 21, says = "Returns the number of states that are left in the history;")
    static void undoReturnsWhatIsLeft() {
        for (int changes = 1; changes <= 6; changes++) {
            HutLoaves hut = new HutLoaves();
            for (int k = 0; k < changes; k++) {
                hut.end(1);
            }
            for (int left = Math.min(4, changes) - 1; left >= 0; left--) {
                Checks.due("undo() after " + changes, hut.undo(), left);
                Checks.due("states", hut.count(18), left);
            }
        }
    }

    @Edge(promise = 21, says = "NOT_POSSIBLE if it is empty.")
    static void undoNotPossible() {
        HutLoaves hut = new HutLoaves();
        Checks.due("a new hut", hut.undo(), Checks.IMPOSSIBLE);
        hut.type('d');
        Checks.due("after a call that is no change", hut.undo(), Checks.IMPOSSIBLE);
        hut.end(1);
        Checks.due("after a change", hut.undo(), 0);
        Checks.due("and again", hut.undo(), Checks.IMPOSSIBLE);
        Checks.due("and again", hut.undo(), Checks.IMPOSSIBLE);
        hut.end(1);
        Checks.due("after a change", hut.undo(), 0);
    }
}
