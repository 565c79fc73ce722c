/** Promise 13: loaves. */
public final class P13LoavesTest {
    public static void main(String[] args) {
        outOfRange();
        everyAge();
        Checks.finish(P13LoavesTest.class);
    }

    private static void outOfRange() {
        HutLoaves hut = new HutLoaves();
        Checks.due("loaves(-1)", hut.loaves(-1), Checks.INVALID);
        Checks.due("loaves(21)", hut.loaves(21), Checks.INVALID);
        Checks.due("loaves(max)", hut.loaves(Integer.MAX_VALUE), Checks.INVALID);
        Checks.due("loaves(min)", hut.loaves(Integer.MIN_VALUE), Checks.INVALID);
        Checks.due("loaves(0)", hut.loaves(0), 0);
        Checks.due("loaves(20)", hut.loaves(20), 0);
    }

    private static void everyAge() {
        HutLoaves hut = Checks.withMules(2);
        hut.send(0, 7);
        hut.end(1);
        hut.send(1, 11);
        for (int day = 1; day <= 22; day++) {
            for (int age = 0; age <= 20; age++) {
                int want = 0;
                if (age == day && day >= 2) {
                    want = 7;
                }
                if (age == day - 1 && day >= 3) {
                    want = 11;
                }
                Checks.due("loaves(" + age + ") on the day " + day, hut.loaves(age), want);
            }
            hut.end(1);
        }
    }
}
