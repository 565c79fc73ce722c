/** Compares answers with those that are due; a test ends with finish. */
final class Checks {
    static final int INVALID = -1000001;
    static final int IMPOSSIBLE = -1000002;
    static final int LIMIT = -1000003;
    static final int MISSING = -1000004;

    private static int wrong = 0;
    private static int made = 0;

    private Checks() {
    }

    static void due(String call, long got, long want) {
        made++;
        if (got != want) {
            wrong++;
            System.out.println(call + " answered " + got + ", due is " + want);
        }
    }

    static int wrong() {
        return wrong;
    }

    static int made() {
        return made;
    }

    static void finish(Class<?> test) {
        System.out.println(test.getName() + ": " + made + " checks, " + wrong + " wrong");
        if (wrong != 0 || made == 0) {
            System.exit(1);
        }
    }

    /** A hut without snow; its history holds one state. */
    static HutLoaves withoutSnow() {
        HutLoaves hut = new HutLoaves();
        due("set(3, 0)", hut.set(3, 0), 10);
        return hut;
    }

    /** A hut without snow, with the most credit, loaves for 1 each, and mules of load 30 and strength 9. */
    static HutLoaves withMules(int many) {
        HutLoaves hut = withoutSnow();
        due("set(1, 500)", hut.set(1, 500), 100);
        due("set(0, 1)", hut.set(0, 1), 2);
        for (int k = 0; k < many; k++) {
            due("mule(30, 9)", hut.mule(30, 9), k);
        }
        return hut;
    }

    static void write(HutLoaves hut, String text) {
        hut.clearText();
        for (int k = 0; k < text.length(); k++) {
            due("type of " + text.charAt(k), hut.type(text.charAt(k)), k + 1);
        }
    }

    static void fault(HutLoaves hut, String text, int position, int reason, int cause) {
        write(hut, text);
        due("fault(0) of " + text, hut.fault(0), position);
        due("fault(1) of " + text, hut.fault(1), reason);
        due("fault(2) of " + text, hut.fault(2), cause);
        due("play() of " + text, hut.play(), IMPOSSIBLE);
    }

    static void noFault(HutLoaves hut, String text) {
        write(hut, text);
        for (int what = 0; what <= 2; what++) {
            due("fault(" + what + ") of " + text, hut.fault(what), MISSING);
        }
    }

    /** A call that returned an error must have changed nothing that count tells. */
    static void unchanged(String call, HutLoaves hut, int[] countsBefore) {
        for (int what = 0; what < countsBefore.length; what++) {
            due("count(" + what + ") after " + call, hut.count(what), countsBefore[what]);
        }
    }

    static int[] counts(HutLoaves hut) {
        int[] counts = new int[24];
        for (int what = 0; what < counts.length; what++) {
            counts[what] = hut.count(what);
        }
        return counts;
    }

    /** Lets a day of snow, or without, end; by setting 3, so x modulo 100 must be below 90 for snow. */
    static void endDay(HutLoaves hut, boolean snow) {
        hut.set(3, snow ? 90 : 0);
        int before = hut.count(14);
        hut.end(1);
        due("days of snow", hut.count(14) - before, snow ? 1 : 0);
    }
}
