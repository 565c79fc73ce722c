/** Promise 24: fault. */
public final class P24FaultTest {
    private static final int FORM = 1;
    private static final int CALL = 2;

    public static void main(String[] args) {
        outOfRange();
        noFault();
        wrongForm();
        endsTooEarly();
        wrongCalls();
        theFirstOneCounts();
        ordersAheadAreDone();
        changesNothing();
        Checks.finish(P24FaultTest.class);
    }

    private static HutLoaves hut() {
        HutLoaves hut = Checks.withoutSnow();
        hut.mule(9, 9);
        hut.mule(20, 9);
        hut.group(5, 0, 9);
        hut.end(1);
        return hut;
    }

    private static void outOfRange() {
        HutLoaves hut = hut();
        Checks.due("fault(-1)", hut.fault(-1), Checks.INVALID);
        Checks.due("fault(3)", hut.fault(3), Checks.INVALID);
        Checks.due("fault(max)", hut.fault(Integer.MAX_VALUE), Checks.INVALID);
        Checks.due("fault(min)", hut.fault(Integer.MIN_VALUE), Checks.INVALID);
        Checks.write(hut, "q");
        Checks.due("fault(-1) of a fault", hut.fault(-1), Checks.INVALID);
        Checks.due("fault(3) of a fault", hut.fault(3), Checks.INVALID);
    }

    private static void noFault() {
        Checks.noFault(hut(), "");
        Checks.noFault(hut(), "d1;");
        Checks.noFault(hut(), "d001;d060;");
        Checks.noFault(hut(), "s0,9;s1,020;");
        Checks.noFault(hut(), "s001,001;");
        Checks.noFault(hut(), "g012,060,009;g1,0,1;");
        Checks.noFault(hut(), "x0;");
        Checks.noFault(hut(), "x000;");
        Checks.noFault(hut(), "s1,20;p5;");
    }

    private static void wrongForm() {
        for (int sign = 32; sign <= 126; sign++) {
            if ("sgxpd".indexOf(sign) < 0) {
                Checks.fault(hut(), (char) sign + "1;", 0, FORM, 0);
                Checks.fault(hut(), "d1;" + (char) sign, 3, FORM, 0);
            }
            boolean digit = sign >= '0' && sign <= '9';
            if (!digit) {
                Checks.fault(hut(), "d" + (char) sign + ";", 0, FORM, 1);
                Checks.fault(hut(), "s1," + (char) sign + ";", 0, FORM, 3);
            }
            if (!digit && sign != ';') {
                Checks.fault(hut(), "d1" + (char) sign, 0, FORM, 2);
                Checks.fault(hut(), "g1,0,1" + (char) sign, 0, FORM, 6);
            }
            if (!digit && sign != ',') {
                Checks.fault(hut(), "s1" + (char) sign + "2;", 0, FORM, 2);
                Checks.fault(hut(), "g12,3" + (char) sign + "1;", 0, FORM, 5);
            }
        }
        Checks.fault(hut(), "d0001;", 0, FORM, 4);
        Checks.fault(hut(), "s1,0005;", 0, FORM, 6);
        Checks.fault(hut(), "s0001,5;", 0, FORM, 4);
        Checks.fault(hut(), "g1,0000,1;", 0, FORM, 6);
        Checks.fault(hut(), "s1;", 0, FORM, 2);
        Checks.fault(hut(), "s1,2,3;", 0, FORM, 4);
        Checks.fault(hut(), "g1,2;", 0, FORM, 4);
        Checks.fault(hut(), "g1,2,3,4;", 0, FORM, 6);
        Checks.fault(hut(), "x0,1;", 0, FORM, 2);
        Checks.fault(hut(), "p1,1;", 0, FORM, 2);
        Checks.fault(hut(), "d1,1;", 0, FORM, 2);
        Checks.fault(hut(), "d1;;", 3, FORM, 0);
        Checks.fault(hut(), ";", 0, FORM, 0);
        Checks.fault(hut(), "d1; d1;", 3, FORM, 0);
        Checks.fault(hut(), "d-1;", 0, FORM, 1);
    }

    private static void endsTooEarly() {
        String[] orders = {"s1,20;", "g12,60,9;", "x0;", "p5;", "d12;", "d001;", "s001,009;"};
        for (String order : orders) {
            for (int length = 1; length < order.length(); length++) {
                Checks.fault(hut(), order.substring(0, length), 0, FORM, length);
                Checks.fault(hut(), "d1;s0,3;" + order.substring(0, length), 8, FORM, length);
            }
        }
        StringBuilder full = new StringBuilder();
        while (full.length() < 57) {
            full.append("d1;");
        }
        Checks.fault(hut(), full + "d12", 57, FORM, 3);
        Checks.fault(hut(), full + "d1,", 57, FORM, 2);
    }

    private static void wrongCalls() {
        Checks.fault(hut(), "s2,1;", 0, CALL, Checks.INVALID);
        Checks.fault(hut(), "s999,1;", 0, CALL, Checks.INVALID);
        Checks.fault(hut(), "s0,0;", 0, CALL, Checks.INVALID);
        Checks.fault(hut(), "s0,31;", 0, CALL, Checks.INVALID);
        Checks.fault(hut(), "s0,10;", 0, CALL, Checks.IMPOSSIBLE);
        Checks.fault(hut(), "g0,0,1;", 0, CALL, Checks.INVALID);
        Checks.fault(hut(), "g13,0,1;", 0, CALL, Checks.INVALID);
        Checks.fault(hut(), "g1,61,1;", 0, CALL, Checks.INVALID);
        Checks.fault(hut(), "g1,0,0;", 0, CALL, Checks.INVALID);
        Checks.fault(hut(), "g1,0,10;", 0, CALL, Checks.INVALID);
        Checks.fault(hut(), "x1;", 0, CALL, Checks.INVALID);
        Checks.fault(hut(), "p0;", 0, CALL, Checks.INVALID);
        Checks.fault(hut(), "p501;", 0, CALL, Checks.INVALID);
        Checks.fault(hut(), "p500;", 0, CALL, Checks.IMPOSSIBLE);
        Checks.fault(hut(), "d0;", 0, CALL, Checks.INVALID);
        Checks.fault(hut(), "d61;", 0, CALL, Checks.INVALID);
        Checks.fault(hut(), "d999;", 0, CALL, Checks.INVALID);
        HutLoaves full = new HutLoaves();
        for (int k = 0; k < 9; k++) {
            full.group(1, 60, 1);
        }
        Checks.fault(full, "g1,1,1;g1,1,1;", 7, CALL, Checks.LIMIT);
        HutLoaves late = new HutLoaves();
        for (int k = 0; k < 166; k++) {
            late.end(60);
        }
        Checks.fault(late, "d39;d1;", 4, CALL, Checks.LIMIT);
    }

    private static void theFirstOneCounts() {
        Checks.fault(hut(), "d0;q", 0, CALL, Checks.INVALID);
        Checks.fault(hut(), "q;d0;", 0, FORM, 0);
        Checks.fault(hut(), "d1;d0;x1;", 3, CALL, Checks.INVALID);
        Checks.fault(hut(), "d1;s0,1,x1;", 3, FORM, 4);
        Checks.fault(hut(), "d99", 0, FORM, 3);
        Checks.fault(hut(), "d1;d1;s0,9;s0,9;s1,", 11, CALL, Checks.IMPOSSIBLE);
    }

    private static void ordersAheadAreDone() {
        Checks.noFault(hut(), "s0,9;d4;s0,9;");
        Checks.fault(hut(), "s0,9;d3;s0,9;", 8, CALL, Checks.IMPOSSIBLE);
        Checks.noFault(hut(), "g1,0,1;x1;");
        Checks.fault(hut(), "g1,0,1;d1;x1;", 10, CALL, Checks.INVALID);
        Checks.fault(hut(), "x0;x0;", 3, CALL, Checks.INVALID);
        Checks.noFault(hut(), "s0,9;p5;");
        Checks.fault(hut(), "s0,9;p6;", 5, CALL, Checks.IMPOSSIBLE);
        Checks.fault(hut(), "p5;s0,9;", 0, CALL, Checks.IMPOSSIBLE);
        Checks.noFault(hut(), "s0,9;d1;p10;");
        Checks.fault(hut(), "s0,9;d1;p11;", 8, CALL, Checks.IMPOSSIBLE);
        Checks.fault(hut(), "s1,20;s0,9;d4;s1,20;s0,2;", 20, CALL, Checks.IMPOSSIBLE);
    }

    private static void changesNothing() {
        HutLoaves hut = hut();
        Checks.write(hut, "s0,9;g1,0,1;d60;x0;x7;");
        int[] counts = Checks.counts(hut);
        Checks.due("fault(0)", hut.fault(0), 16);
        Checks.due("fault(1)", hut.fault(1), CALL);
        Checks.due("fault(2)", hut.fault(2), Checks.INVALID);
        Checks.unchanged("fault", hut, counts);
        Checks.due("the mule is at home", hut.muleOf(0, 2), 0);
        hut.off(0);
        hut.group(2, 60, 9);
        Checks.due("another group now", hut.fault(0), 16);
        hut.undo();
        hut.undo();
        hut.clearText();
        Checks.due("fault(0) of no text", hut.fault(0), Checks.MISSING);
    }
}
