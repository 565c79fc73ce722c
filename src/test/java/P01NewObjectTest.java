/** Promise 1: a new object. */
public final class P01NewObjectTest {
    public static void main(String[] args) {
        HutLoaves hut = new HutLoaves();
        everythingAtFirst(hut);
        anotherObjectIsNotTouched();
        Checks.finish(P01NewObjectTest.class);
    }

    private static void everythingAtFirst(HutLoaves hut) {
        int[] want = new int[24];
        want[4] = 1;
        want[20] = 2;
        want[21] = 100;
        want[22] = 3;
        want[23] = 10;
        for (int what = 0; what < want.length; what++) {
            Checks.due("count(" + what + ")", hut.count(what), want[what]);
        }
        for (int age = 0; age <= 20; age++) {
            Checks.due("loaves(" + age + ")", hut.loaves(age), 0);
        }
        for (int days = 0; days <= 60; days++) {
            Checks.due("wanted(" + days + ")", hut.wanted(days), 0);
        }
        Checks.due("muleOf(0, 0)", hut.muleOf(0, 0), Checks.INVALID);
        Checks.due("groupOf(0, 0)", hut.groupOf(0, 0), Checks.INVALID);
        Checks.due("number(0)", hut.number(0), Checks.MISSING);
        Checks.due("mean()", hut.mean(), Checks.MISSING);
        Checks.due("hungry()", hut.hungry(), Checks.MISSING);
        Checks.due("next(0)", hut.next(0), Checks.MISSING);
        Checks.due("undo()", hut.undo(), Checks.IMPOSSIBLE);
        Checks.due("fault(0)", hut.fault(0), Checks.MISSING);
        Checks.due("clearText()", hut.clearText(), 0);
    }

    private static void anotherObjectIsNotTouched() {
        HutLoaves one = new HutLoaves();
        HutLoaves other = new HutLoaves();
        one.mule(5, 5);
        one.group(3, 0, 2);
        one.type('d');
        one.end(1);
        everythingAtFirst(other);
    }
}
