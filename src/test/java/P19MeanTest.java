/** Promise 19: mean. */
public final class P19MeanTest {
    public static void main(String[] args) {
        oneAge();
        oneLoaf();
        twoAges();
        Checks.finish(P19MeanTest.class);
    }

    private static void oneAge() {
        HutLoaves hut = Checks.withMules(1);
        Checks.due("without loaves", hut.mean(), Checks.MISSING);
        hut.send(0, 7);
        Checks.due("loaves on their way are not the hut's", hut.mean(), Checks.MISSING);
        hut.end(2);
        Checks.due("2", hut.mean(), 0x40000000);
        for (int age = 3; age <= 20; age++) {
            hut.end(1);
            Checks.due("mean at the age " + age, hut.mean(), Float.floatToIntBits((float) age));
        }
        hut.end(1);
        Checks.due("all thrown away", hut.mean(), Checks.MISSING);
    }

    private static void oneLoaf() {
        HutLoaves hut = Checks.withMules(1);
        hut.send(0, 1);
        hut.end(9);
        Checks.due("9", hut.mean(), 0x41100000);
    }

    private static void twoAges() {
        for (int older = 1; older <= 30; older++) {
            HutLoaves hut = Checks.withMules(3);
            hut.send(0, older);
            hut.end(3);
            hut.send(1, 30);
            hut.send(2, older / 2 + 1);
            hut.end(2);
            for (int day = 5; day <= 20; day++) {
                int younger = 30 + older / 2 + 1;
                float ages = older * day + younger * (day - 3);
                float many = older + younger;
                Checks.due("mean of " + older + " and " + younger + " on the day " + day,
                    hut.mean(), Float.floatToIntBits(ages / many));
                hut.end(1);
            }
        }
    }
}
