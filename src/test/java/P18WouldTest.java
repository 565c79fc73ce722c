/** Promise 18: would. */
public final class P18WouldTest {
    public static void main(String[] args) {
        wrongArguments();
        asIfDaysEnded();
        lostAndThrownAway();
        afterTheLastDay();
        Checks.finish(P18WouldTest.class);
    }

    private static void wrongArguments() {
        HutLoaves hut = new HutLoaves();
        Checks.due("would(0, 0)", hut.would(0, 0), Checks.INVALID);
        Checks.due("would(61, 0)", hut.would(61, 0), Checks.INVALID);
        Checks.due("would(1, -1)", hut.would(1, -1), Checks.INVALID);
        Checks.due("would(1, 4)", hut.would(1, 4), Checks.INVALID);
        Checks.due("would(max, 0)", hut.would(Integer.MAX_VALUE, 0), Checks.INVALID);
        Checks.due("would(min, 0)", hut.would(Integer.MIN_VALUE, 0), Checks.INVALID);
        Checks.due("would(1, min)", hut.would(1, Integer.MIN_VALUE), Checks.INVALID);
        Checks.due("would(1, 0)", hut.would(1, 0), 0);
        Checks.due("would(60, 3)", hut.would(60, 3), 0);
    }

    private static void asIfDaysEnded() {
        HutLoaves hut = Checks.withMules(2);
        hut.send(0, 12);
        hut.send(1, 9);
        hut.group(5, 0, 4);
        hut.group(8, 2, 9);
        hut.end(3);
        hut.set(3, 40);
        int[] counts = Checks.counts(hut);
        int[] days = {1, 2, 5, 20, 60};
        int[][] told = new int[days.length][4];
        for (int k = 0; k < days.length; k++) {
            for (int what = 0; what <= 3; what++) {
                told[k][what] = hut.would(days[k], what);
            }
        }
        Checks.unchanged("would", hut, counts);
        for (int k = 0; k < days.length; k++) {
            Checks.due("eaten in " + days[k], told[k][0], hut.end(days[k]));
            Checks.due("money after " + days[k], told[k][1], hut.count(5));
            Checks.due("loaves after " + days[k], told[k][2], hut.count(7));
            Checks.due("wasted in " + days[k], told[k][3],
                hut.count(12) + hut.count(13) - counts[12] - counts[13]);
            hut.undo();
        }
        Checks.due("eaten before is not told", told[0][0], 7);
        Checks.due("money of before is told", told[0][1], counts[5] + 39);
    }

    private static void lostAndThrownAway() {
        HutLoaves hut = Checks.withMules(4);
        for (int k = 0; k < 4; k++) {
            hut.send(k, 25);
        }
        hut.group(2, 2, 2);
        Checks.due("would(1, 3)", hut.would(1, 3), 0);
        Checks.due("would(2, 3)", hut.would(2, 3), 20);
        Checks.due("would(2, 2)", hut.would(2, 2), 80);
        Checks.due("would(4, 2)", hut.would(4, 2), 78);
        Checks.due("would(20, 3)", hut.would(20, 3), 20);
        Checks.due("would(21, 3)", hut.would(21, 3), 98);
        Checks.due("would(21, 2)", hut.would(21, 2), 0);
        Checks.due("would(21, 0)", hut.would(21, 0), 2);
        Checks.due("would(21, 1)", hut.would(21, 1), 12);
        hut.end(2);
        Checks.due("what was lost is not told", hut.would(1, 3), 0);
        Checks.due("nor is it then", hut.would(60, 3), 78);
        hut.end(20);
        Checks.due("nor what was thrown away", hut.would(60, 3), 0);
        Checks.due("nor what was eaten", hut.would(60, 0), 0);
    }

    private static void afterTheLastDay() {
        HutLoaves hut = new HutLoaves();
        for (int k = 0; k < 166; k++) {
            hut.end(60);
        }
        hut.end(39);
        hut.group(7, 59, 1);
        Checks.due("end(1)", hut.end(1), Checks.LIMIT);
        Checks.due("would(59, 1)", hut.would(59, 1), 0);
        Checks.due("would(60, 1)", hut.would(60, 1), 7);
        Checks.due("day", hut.count(3), 9999);
    }
}
