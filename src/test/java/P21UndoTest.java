/** Promise 21: undo; and the changes that the history records, by the terms. */
public final class P21UndoTest {
    public static void main(String[] args) {
        emptyHistory();
        fourStatesAtMost();
        everyChangeIsRecorded();
        changesAfterQuestions();
        everythingIsRestored();
        ageOfLoavesOnTheirWay();
        theTextIsNot();
        Checks.finish(P21UndoTest.class);
    }

    private static void emptyHistory() {
        HutLoaves hut = new HutLoaves();
        Checks.due("undo()", hut.undo(), Checks.IMPOSSIBLE);
        hut.mule(1, 1);
        Checks.due("undo()", hut.undo(), 0);
        Checks.due("undo()", hut.undo(), Checks.IMPOSSIBLE);
    }

    private static void fourStatesAtMost() {
        HutLoaves hut = new HutLoaves();
        int[] states = {1, 2, 3, 4, 4, 4, 4};
        for (int k = 0; k < states.length; k++) {
            hut.end(1);
            Checks.due("states", hut.count(18), states[k]);
        }
        for (int left = 3; left >= 0; left--) {
            Checks.due("undo()", hut.undo(), left);
            Checks.due("day", hut.count(3), 3 + left);
            Checks.due("states", hut.count(18), left);
        }
        Checks.due("undo()", hut.undo(), Checks.IMPOSSIBLE);
        Checks.due("day", hut.count(3), 3);
        hut.end(2);
        hut.end(2);
        Checks.due("undo()", hut.undo(), 1);
        hut.end(5);
        Checks.due("day", hut.count(3), 10);
        Checks.due("undo()", hut.undo(), 1);
        Checks.due("undo()", hut.undo(), 0);
        Checks.due("day", hut.count(3), 3);
    }

    /** A hut with a full history, in which every change is possible. */
    private static HutLoaves busyHut() {
        HutLoaves hut = Checks.withMules(2);
        hut.group(12, 0, 1);
        hut.group(3, 60, 9);
        hut.send(0, 9);
        hut.end(1);
        return hut;
    }

    /** What was only asked, or was refused, must not be seen in the next change. */
    private static void changesAfterQuestions() {
        for (int change = 0; change < 10; change++) {
            for (int question = 0; question < 4; question++) {
                HutLoaves asked = busyHut();
                Checks.write(asked, "d9;x1;s1,9;g9,9,9;d0;");
                ask(asked, question);
                HutLoaves other = busyHut();
                String name = "change " + change + " after the question " + question;
                asked.clearText();
                Checks.due(name, makeChange(asked, change), makeChange(other, change));
                Checks.unchanged(name, asked, Checks.counts(other));
                Checks.due(name, asked.muleOf(1, 2), other.muleOf(1, 2));
                Checks.due(name, asked.groupOf(1, 1), other.groupOf(1, 1));
            }
        }
    }

    private static void ask(HutLoaves hut, int question) {
        switch (question) {
            case 0:
                hut.would(60, 0);
                break;
            case 1:
                hut.hungry();
                break;
            case 2:
                hut.fault(0);
                break;
            default:
                Checks.due("play()", hut.play(), Checks.IMPOSSIBLE);
                break;
        }
    }

    private static void everyChangeIsRecorded() {
        for (int change = 0; change < 10; change++) {
            HutLoaves hut = busyHut();
            int[] counts = Checks.counts(hut);
            int answer = makeChange(hut, change);
            Checks.due("change " + change + " is possible", answer >= 0 ? 1 : 0, 1);
            Checks.due("states", hut.count(18), 4);
            counts[19] = hut.count(19);
            Checks.due("undo of the change " + change, hut.undo(), 3);
            counts[18] = 3;
            Checks.unchanged("undo of the change " + change, hut, counts);
            Checks.due("undo of end", hut.undo(), 2);
            Checks.due("day", hut.count(3), 0);
        }
    }

    private static int makeChange(HutLoaves hut, int change) {
        switch (change) {
            case 0:
                return hut.mule(3, 3);
            case 1:
                return hut.send(1, 4);
            case 2:
                return hut.rest(1);
            case 3:
                return hut.group(5, 0, 2);
            case 4:
                return hut.off(1);
            case 5:
                return hut.pay(8);
            case 6:
                return hut.end(3);
            case 7:
                return hut.set(2, 8);
            case 8:
                Checks.write(hut, "d1;g1,0,1;");
                return hut.play();
            default:
                return hut.play();
        }
    }

    private static void everythingIsRestored() {
        HutLoaves hut = Checks.withMules(0);
        hut.mule(20, 2);
        hut.mule(10, 1);
        hut.send(0, 20);
        hut.send(1, 5);
        hut.end(4);
        hut.send(0, 4);
        hut.group(5, 0, 3);
        hut.group(9, 1, 2);
        hut.group(2, 0, 8);
        hut.end(1);
        int[] counts = Checks.counts(hut);
        int[] details = details(hut);
        hut.off(1);
        Checks.due("one is off", hut.number(1), 2);
        hut.end(25);
        hut.send(0, 9);
        hut.group(1, 1, 1);
        for (int k = 0; k < 4; k++) {
            hut.undo();
        }
        counts[18] = 0;
        Checks.unchanged("undo", hut, counts);
        int[] restored = details(hut);
        for (int k = 0; k < details.length; k++) {
            Checks.due("detail " + k, restored[k], details[k]);
        }
    }

    private static void ageOfLoavesOnTheirWay() {
        HutLoaves hut = Checks.withMules(1);
        hut.send(0, 5);
        hut.end(2);
        hut.end(2);
        hut.send(0, 5);
        hut.undo();
        hut.undo();
        hut.undo();
        Checks.due("day", hut.count(3), 0);
        hut.end(3);
        Checks.due("baked on the day 0", hut.loaves(3), 5);
    }

    private static int[] details(HutLoaves hut) {
        int[] details = new int[60];
        int at = 0;
        for (int mule = 0; mule < 2; mule++) {
            for (int what = 0; what <= 7; what++) {
                details[at++] = hut.muleOf(mule, what);
            }
        }
        for (int group = 0; group < 3; group++) {
            for (int what = 0; what <= 6; what++) {
                details[at++] = hut.groupOf(group, what);
            }
        }
        for (int age = 0; age <= 20; age++) {
            details[at++] = hut.loaves(age);
        }
        return details;
    }

    private static void theTextIsNot() {
        HutLoaves hut = new HutLoaves();
        Checks.write(hut, "d1;");
        hut.end(1);
        Checks.write(hut, "d12;");
        Checks.due("undo()", hut.undo(), 0);
        Checks.due("length", hut.count(19), 4);
        Checks.due("play()", hut.play(), 1);
        Checks.due("day", hut.count(3), 12);
        hut.clearText();
        Checks.due("undo()", hut.undo(), 0);
        Checks.due("length", hut.count(19), 0);
    }
}
