/** Many runs of up to 512 calls, on the class and on the plain model of it, which must answer the same. */
public final class RandomRunsTest {
    static final int RUNS = 400;
    static final int CALLS = 512;
    private static final int COUNTS = 24;
    private static final int LONGEST_ORDER = 12;
    private static final int[] EDGES = {Integer.MIN_VALUE, Integer.MAX_VALUE, -1, 0, 1, 4, 9, 10, 12, 13, 20, 21, 30,
        31, 59, 60, 61, 90, 91, 126, 127, 500, 501, Integer.MIN_VALUE + 1, Integer.MAX_VALUE - 59};

    private long seed;
    private int calls;
    private final HutLoaves real = new HutLoaves();
    private final PlainHut plain = new PlainHut();

    private RandomRunsTest(long seed) {
        this.seed = seed;
    }

    public static void main(String[] args) {
        for (int run = 0; run < RUNS; run++) {
            new RandomRunsTest(run * 7919L + 17).run(run);
        }
        Checks.finish(RandomRunsTest.class);
    }

    private int upTo(int bound) {
        seed = seed * 6364136223846793005L + 1442695040888963407L;
        return (int) ((seed >>> 33) % bound);
    }

    /** Mostly within the range, sometimes next to it, seldom far out. */
    private int pick(int low, int high) {
        int kind = upTo(60);
        if (kind == 0) {
            return EDGES[upTo(EDGES.length)];
        }
        if (kind == 1) {
            return low - 1;
        }
        if (kind == 2) {
            return high + 1;
        }
        if (kind < 8) {
            return upTo(2) == 0 ? low : high;
        }
        return low + upTo(high - low + 1);
    }

    /** A step may make as many calls as an order has characters, and what follows is free after the last call. */
    private void run(int run) {
        int pace = upTo(3) == 0 ? 60 : 6;
        while (calls < CALLS - COUNTS - LONGEST_ORDER) {
            step("run " + run + ", call " + calls + ": ", pace);
        }
        for (int what = 0; what < COUNTS; what++) {
            same("run " + run + ", at its end count(" + what + ")", real.count(what), plain.count(what));
        }
    }

    private void step(String where, int pace) {
        int kind = upTo(40);
        if (kind < 18) {
            change(where, kind, pace);
        } else if (kind < 30) {
            ask(where, kind);
        } else if (kind < 32) {
            same(where + "undo()", real.undo(), plain.undo());
        } else if (kind < 37) {
            write(where);
        } else {
            texts(where);
        }
    }

    private void same(String call, int got, int want) {
        calls++;
        Checks.due(call, got, want);
    }

    private void change(String where, int kind, int pace) {
        int a;
        int b;
        int c;
        switch (kind) {
            case 0:
                a = pick(1, 30);
                b = upTo(2) == 0 ? pick(1, 2) : pick(1, 9);
                same(where + "mule(" + a + ", " + b + ")", real.mule(a, b), plain.call("mule", a, b, 0));
                break;
            case 1:
            case 2:
            case 3:
            case 4:
                a = upTo(3) == 0 ? pick(0, 3) : plain.next(0);
                b = upTo(3) == 0 ? pick(1, 30) : plain.next(1);
                same(where + "send(" + a + ", " + b + ")", real.send(a, b), plain.call("send", a, b, 0));
                break;
            case 5:
                a = pick(0, 3);
                same(where + "rest(" + a + ")", real.rest(a), plain.call("rest", a, 0, 0));
                break;
            case 6:
            case 7:
                a = upTo(2) == 0 ? pick(1, 500) : Math.min(plain.count(5), plain.count(6)) + upTo(3) - 1;
                same(where + "pay(" + a + ")", real.pay(a), plain.call("pay", a, 0, 0));
                break;
            case 8:
            case 9:
            case 10:
                a = pick(1, 12);
                b = upTo(2) == 0 ? pick(0, 60) : pick(0, 3);
                c = pick(1, 9);
                same(where + "group(" + a + ", " + b + ", " + c + ")",
                    real.group(a, b, c), plain.call("group", a, b, c));
                break;
            case 11:
                a = upTo(2) == 0 ? pick(0, 30) : plain.number(upTo(5));
                same(where + "off(" + a + ")", real.off(a), plain.call("off", a, 0, 0));
                break;
            case 12:
                a = pick(0, 3);
                b = a == 0 ? pick(1, 9) : a == 1 ? pick(10, 500) : a == 2 ? pick(0, 15) : pick(0, 90);
                same(where + "set(" + a + ", " + b + ")", real.set(a, b), plain.call("set", a, b, 0));
                break;
            default:
                a = pick(1, pace);
                same(where + "end(" + a + ")", real.end(a), plain.call("end", a, 0, 0));
                break;
        }
    }

    private void ask(String where, int kind) {
        int a;
        int b;
        switch (kind) {
            case 18:
                a = pick(0, 3);
                b = pick(0, 7);
                same(where + "muleOf(" + a + ", " + b + ")", real.muleOf(a, b), plain.muleOf(a, b));
                break;
            case 19:
                a = upTo(2) == 0 ? pick(0, 30) : plain.number(upTo(5));
                b = pick(0, 6);
                same(where + "groupOf(" + a + ", " + b + ")", real.groupOf(a, b), plain.groupOf(a, b));
                break;
            case 20:
                a = pick(0, 9);
                same(where + "number(" + a + ")", real.number(a), plain.number(a));
                break;
            case 21:
                a = pick(0, 20);
                same(where + "loaves(" + a + ")", real.loaves(a), plain.loaves(a));
                break;
            case 22:
                a = pick(0, 3);
                b = pick(1, 30);
                same(where + "why(" + a + ", " + b + ")", real.why(a, b), plain.why(a, b));
                break;
            case 23:
                a = pick(0, 60);
                same(where + "wanted(" + a + ")", real.wanted(a), plain.wanted(a));
                break;
            case 24:
                same(where + "hungry()", real.hungry(), plain.hungry());
                break;
            case 25:
                a = pick(0, 1);
                same(where + "next(" + a + ")", real.next(a), plain.next(a));
                break;
            case 26:
                a = pick(1, 60);
                b = pick(0, 3);
                same(where + "would(" + a + ", " + b + ")", real.would(a, b), plain.would(a, b));
                break;
            case 27:
                same(where + "mean()", real.mean(), plain.mean());
                break;
            default:
                a = pick(0, 23);
                same(where + "count(" + a + ")", real.count(a), plain.count(a));
                break;
        }
    }

    private void texts(String where) {
        int kind = upTo(6);
        int a = pick(0, 2);
        if (kind == 0) {
            same(where + "clearText()", real.clearText(), plain.clearText());
        } else if (kind < 3) {
            same(where + "play()", real.play(), plain.play());
        } else {
            same(where + "fault(" + a + ")", real.fault(a), plain.fault(a));
        }
    }

    /** A call of type alone, or an order that is seldom spoilt. */
    private void write(String where) {
        String order = upTo(4) == 0 ? "" : order();
        for (int k = 0; k < order.length(); k++) {
            int sign = upTo(80) == 0 ? pick(32, 126) : order.charAt(k);
            same(where + "type(" + sign + ")", real.type(sign), plain.type(sign));
        }
        if (order.isEmpty()) {
            int sign = "sgxpd0123456789,;".charAt(upTo(17));
            same(where + "type(" + sign + ")", real.type(sign), plain.type(sign));
        }
    }

    private String order() {
        switch (upTo(6)) {
            case 0:
                return "s" + upTo(4) + "," + (1 + upTo(12)) + ";";
            case 1:
                return "g" + (1 + upTo(12)) + "," + upTo(5) + ",0" + (1 + upTo(9)) + ";";
            case 2:
                return "x" + Math.max(0, plain.number(upTo(2))) + ";";
            case 3:
                return "p" + (1 + upTo(20)) + ";";
            default:
                return "d" + (1 + upTo(9)) + ";";
        }
    }
}
