import java.util.LinkedHashMap;
import java.util.Map;

/** Everything that a hut tells by calls that change nothing: some 200 of the 512 that it may be asked. */
final class Everything {
    private final Map<String, Integer> answers = new LinkedHashMap<>();

    private Everything(HutLoaves hut) {
        for (int what = 0; what <= 23; what++) {
            answers.put("count(" + what + ")", hut.count(what));
        }
        for (int age = 0; age <= 20; age++) {
            answers.put("loaves(" + age + ")", hut.loaves(age));
        }
        mules(hut, hut.count(0));
        groups(hut, hut.count(1));
        whatWouldBe(hut);
    }

    private void mules(HutLoaves hut, int many) {
        for (int mule = 0; mule < many; mule++) {
            for (int what = 0; what <= 7; what++) {
                answers.put("muleOf(" + mule + ", " + what + ")", hut.muleOf(mule, what));
            }
            answers.put("why(" + mule + ", 9)", hut.why(mule, 9));
        }
    }

    private void groups(HutLoaves hut, int many) {
        for (int index = 0; index <= many; index++) {
            int group = hut.number(index);
            answers.put("number(" + index + ")", group);
            for (int what = 0; what <= 6 && index < many; what++) {
                answers.put("groupOf(" + group + ", " + what + ")", hut.groupOf(group, what));
            }
        }
    }

    private void whatWouldBe(HutLoaves hut) {
        for (int days = 0; days <= 60; days += days < 10 ? 1 : 10) {
            answers.put("wanted(" + days + ")", hut.wanted(days));
        }
        answers.put("hungry()", hut.hungry());
        answers.put("mean()", hut.mean());
        for (int what = 0; what <= 3; what++) {
            answers.put("would(4, " + what + ")", hut.would(4, what));
            answers.put("would(60, " + what + ")", hut.would(60, what));
        }
        for (int what = 0; what <= 2; what++) {
            answers.put("next(" + what + ")", hut.next(what));
            answers.put("fault(" + what + ")", hut.fault(what));
        }
    }

    static void same(String after, HutLoaves hut, HutLoaves twin) {
        Map<String, Integer> got = new Everything(hut).answers;
        Map<String, Integer> want = new Everything(twin).answers;
        Checks.due("answers after " + after, got.size(), want.size());
        for (Map.Entry<String, Integer> e : want.entrySet()) {
            int answer = got.getOrDefault(e.getKey(), Integer.MIN_VALUE);
            Checks.due(e.getKey() + " after " + after, answer, e.getValue());
        }
    }
}
