import java.util.function.ToIntFunction;

/** Promises 22 to 25, and what the terms say of texts: a test for each sentence. */
public final class TextsEdgesTest {
    private static final int FORM = 1;
    private static final int CALL = 2;
    private static final String[] ORDERS = {"s0,9;", "g12,60,9;", "x0;", "p5;", "d1;"};

    public static void main(String[] args) {
        Edges.run(TextsEdgesTest.class);
    }

    /** Without snow, on the day 1: mules of load 9 and 20 at home, one away, the group 0, money of 5, a debt of 10. */
    private static HutLoaves hut() {
        HutLoaves hut = Checks.withoutSnow();
        hut.mule(9, 9);
        hut.mule(20, 9);
        hut.mule(5, 9);
        hut.send(2, 5);
        hut.group(5, 0, 9);
        hut.end(1);
        Checks.due("money", hut.count(5), 5);
        Checks.due("debt", hut.count(6), 10);
        return hut;
    }

    private static void good(String text) {
        Checks.noFault(hut(), text);
    }

    private static void bad(String text, int position, int reason, int cause) {
        Checks.fault(hut(), text, position, reason, cause);
    }

    private static String repeated(String order, int times) {
        StringBuilder text = new StringBuilder();
        for (int k = 0; k < times; k++) {
            text.append(order);
        }
        return text.toString();
    }

    /** A hut in which the text was played. */
    private static HutLoaves played(String text, int orders) {
        HutLoaves hut = hut();
        Checks.write(hut, text);
        Checks.due("play() of " + text, hut.play(), orders);
        return hut;
    }

    // ---- the text

    @Edge(promise = 22, says = "There is a text of at most 60 characters,")
    static void atMostSixtyCharacters() {
        HutLoaves hut = hut();
        Checks.write(hut, repeated("d1;", 20));
        Checks.due("a 61st", hut.type('d'), Checks.LIMIT);
        Checks.due("length", hut.count(19), 60);
        Checks.due("all of them are read", hut.play(), 20);
        bad(repeated("d1;", 19) + "d1,", 57, FORM, 2);
        bad(repeated("d1;", 19) + "d12", 57, FORM, 3);
        bad(repeated("d1;", 19) + "d0;", 57, CALL, Checks.INVALID);
    }

    @Edge(promise = 23, says = "initially empty:")
    static void initiallyEmpty() {
        HutLoaves hut = new HutLoaves();
        Checks.due("length", hut.count(19), 0);
        Checks.due("fault(0)", hut.fault(0), Checks.MISSING);
        Checks.due("clearText()", hut.clearText(), 0);
        Checks.due("play()", hut.play(), 0);
        Checks.due("the first character", hut.type('d'), 1);
    }

    @Edge(promise = 24, says = "orders, each followed by \";\":")
    static void eachFollowedByASemicolon() {
        for (String order : ORDERS) {
            String without = order.substring(0, order.length() - 1);
            good(order);
            bad(without, 0, FORM, without.length());
            bad(without + "d1;", 0, FORM, without.length());
            bad(without + ",", 0, FORM, without.length());
            bad(order + ";", order.length(), FORM, 0);
            bad(order + " ", order.length(), FORM, 0);
            bad(";" + order, 0, FORM, 0);
            bad(" " + order, 0, FORM, 0);
        }
        bad(";", 0, FORM, 0);
        good("d1;d1;");
        bad("d1,d1;", 0, FORM, 2);
    }

    @Edge(promise = 25, says = "\"s\" a mule, \",\", loaves (sent),")
    static void orderToSend() {
        HutLoaves hut = played("s0,1;s1,20;", 2);
        Checks.due("loaves of the mule 0", hut.muleOf(0, 4), 1);
        Checks.due("loaves of the mule 1", hut.muleOf(1, 4), 20);
        Checks.due("debt", hut.count(6), 52);
        bad("s0;", 0, FORM, 2);
        bad("s,9;", 0, FORM, 1);
        bad("s0,;", 0, FORM, 3);
        bad("s0,9,1;", 0, FORM, 4);
        bad("s0,,9;", 0, FORM, 3);
        bad("S0,9;", 0, FORM, 0);
        bad("s3,9;", 0, CALL, Checks.INVALID);
        bad("s0,10;", 0, CALL, Checks.IMPOSSIBLE);
    }

    @Edge(promise = 25, says = "\"g\" persons, \",\", days from now, \",\", nights (booked),")
    static void orderToBook() {
        HutLoaves hut = played("g1,60,9;g12,0,1;", 2);
        int[] first = {1, 61, 9};
        int[] second = {12, 1, 1};
        for (int what = 0; what <= 2; what++) {
            Checks.due("of the first", hut.groupOf(1, what), first[what]);
            Checks.due("of the second", hut.groupOf(2, what), second[what]);
        }
        bad("g1;", 0, FORM, 2);
        bad("g1,60;", 0, FORM, 5);
        bad("g1,60,;", 0, FORM, 6);
        bad("g1,60,9,1;", 0, FORM, 7);
        bad("g,60,9;", 0, FORM, 1);
        bad("G1,60,9;", 0, FORM, 0);
        bad("g13,60,9;", 0, CALL, Checks.INVALID);
        bad("g12,61,9;", 0, CALL, Checks.INVALID);
        bad("g12,60,10;", 0, CALL, Checks.INVALID);
    }

    @Edge(promise = 25, says = "\"x\" a group (called off),")
    static void orderToCallOff() {
        HutLoaves hut = played("g1,0,1;x0;", 2);
        Checks.due("the lowest that is left", hut.number(0), 1);
        Checks.due("booked", hut.count(1), 1);
        bad("x;", 0, FORM, 1);
        bad("x0,1;", 0, FORM, 2);
        bad("X0;", 0, FORM, 0);
        bad("x1;", 0, CALL, Checks.INVALID);
        bad("x0;x0;", 3, CALL, Checks.INVALID);
        bad("x999;", 0, CALL, Checks.INVALID);
    }

    @Edge(promise = 25, says = "\"p\" money (paid to the baker)")
    static void orderToPay() {
        HutLoaves hut = played("p1;p4;", 2);
        Checks.due("debt", hut.count(6), 5);
        Checks.due("money", hut.count(5), 0);
        Checks.due("paid", hut.count(17), 5);
        bad("p;", 0, FORM, 1);
        bad("p1,1;", 0, FORM, 2);
        bad("P1;", 0, FORM, 0);
        bad("p0;", 0, CALL, Checks.INVALID);
        bad("p6;", 0, CALL, Checks.IMPOSSIBLE);
        bad("p500;", 0, CALL, Checks.IMPOSSIBLE);
        bad("p501;", 0, CALL, Checks.INVALID);
    }

    @Edge(promise = 25, says = "or \"d\" days (they end);")
    static void orderToEndDays() {
        HutLoaves hut = played("d60;d1;", 2);
        Checks.due("the day", hut.count(3), 62);
        Checks.due("the group is gone", hut.count(1), 0);
        bad("d;", 0, FORM, 1);
        bad("d1,1;", 0, FORM, 2);
        bad("D1;", 0, FORM, 0);
        bad("d0;", 0, CALL, Checks.INVALID);
        bad("d61;", 0, CALL, Checks.INVALID);
        HutLoaves late = Edges.onDay(9939);
        Checks.noFault(late, "d60;");
        Checks.fault(late, "d60;d1;", 4, CALL, Checks.LIMIT);
    }

    @Edge(promise = 24, says = "numbers of 1 to 3 digits,")
    static void oneToThreeDigits() {
        good("d1;");
        good("d12;");
        good("d012;");
        bad("d;", 0, FORM, 1);
        bad("d0012;", 0, FORM, 4);
        bad("d0001", 0, FORM, 4);
        bad("s0000,9;", 0, FORM, 4);
        bad("s000,0009;", 0, FORM, 8);
        bad("g012,060,0009;", 0, FORM, 12);
        bad("g012,0060,9;", 0, FORM, 8);
        bad("g0012,60,9;", 0, FORM, 4);
        bad("x0000;", 0, FORM, 4);
        bad("p0005;", 0, FORM, 4);
        bad("d999;", 0, CALL, Checks.INVALID);
        bad("d-1;", 0, FORM, 1);
        bad("d+1;", 0, FORM, 1);
        bad("d/;", 0, FORM, 1);
        bad("d:;", 0, FORM, 1);
        bad("d1/;", 0, FORM, 2);
        bad("d1:;", 0, FORM, 2);
    }

    @Edge(promise = 24, says = "0 ahead allowed.")
    static void zeroAhead() {
        HutLoaves hut = played("s000,009;g002,000,003;d010;", 3);
        Checks.due("loaves of the mule 0", hut.muleOf(0, 6), 9);
        Checks.due("the day", hut.count(3), 11);
        Checks.due("groups so far", hut.count(2), 2);
        good("x00;");
        good("x000;");
        good("p005;");
        good("d060;");
        bad("d061;", 0, CALL, Checks.INVALID);
        bad("d000;", 0, CALL, Checks.INVALID);
        bad("s000,000;", 0, CALL, Checks.INVALID);
    }

    // ---- the fault

    @Edge(promise = 24, says = "The fault of the text is the position, from 0, of the first character of the first order"
        + " that is not possible;")
    static void positionOfTheFirstOne() {
        bad("q", 0, FORM, 0);
        bad("d1;q", 3, FORM, 0);
        bad("d1;d0;d0;", 3, CALL, Checks.INVALID);
        bad("d0;d1", 0, CALL, Checks.INVALID);
        bad("d1;d;d0;", 3, FORM, 1);
        bad("s0,9;g12,60,9;x0;p5;d1;q", 23, FORM, 0);
        bad(repeated("d1;", 19) + "d0;", 57, CALL, Checks.INVALID);
        bad(repeated("d1;", 19) + "d1d", 57, FORM, 2);
        bad(repeated("d10;", 14) + "d1;q", 59, FORM, 0);
    }

    @Edge(promise = 24, says = "its reason is 1 if it is not of this form,")
    static void reasonOfTheForm() {
        String[] texts = {"q", "d", "d;", "d1", "d1,", "d0001;", "s0", "s0,", "s0,1", "s0;", "g1,1,1", "x", "p", "-1;",
            "1;", ",;", "~", " ", "sd1;", "dd1;", "d1 ;", "d 1;"};
        for (String text : texts) {
            HutLoaves hut = hut();
            Checks.write(hut, text);
            Checks.due("reason of " + text, hut.fault(1), FORM);
            Checks.due("position of " + text, hut.fault(0), 0);
        }
        bad("s9,99", 0, FORM, 5);
        bad("d0", 0, FORM, 2);
    }

    @Edge(promise = 24, says = "its \";\" included,")
    static void formWithItsSemicolon() {
        for (String order : ORDERS) {
            String without = order.substring(0, order.length() - 1);
            bad(without, 0, FORM, without.length());
            bad("d1;" + without, 3, FORM, without.length());
        }
        bad("d61", 0, FORM, 3);
        bad("d61;", 0, CALL, Checks.INVALID);
    }

    @Edge(promise = 24, says = "and otherwise 2, when those ahead of it are done;")
    static void reasonOfTheCall() {
        good("s0,9;d4;s0,9;");
        bad("s0,9;d3;s0,9;", 8, CALL, Checks.IMPOSSIBLE);
        bad("s0,9;s0,9;", 5, CALL, Checks.IMPOSSIBLE);
        good("g1,0,1;x1;");
        bad("x1;g1,0,1;", 0, CALL, Checks.INVALID);
        bad("g1,0,1;d1;x1;", 10, CALL, Checks.INVALID);
        good("d8;");
        bad("d8;x0;", 3, CALL, Checks.INVALID);
        good("d7;x0;");
        good("p5;d1;p5;");
        bad("p5;p1;", 3, CALL, Checks.IMPOSSIBLE);
        good("s1,20;s0,9;d4;s1,16;");
        bad("s1,20;s0,9;d4;s1,17;", 14, CALL, Checks.IMPOSSIBLE);
        good("p1;s1,20;s0,9;d4;s1,16;");
        good("p2;s1,20;s0,9;d4;s1,17;");
    }

    @Edge(promise = 24, says = "its cause is with the reason 1 at which character of the order, from 0, it breaks off")
    static void causeWhereItBreaksOff() {
        for (String order : ORDERS) {
            for (int at = 0; at < order.length(); at++) {
                String broken = order.substring(0, at) + "?" + order.substring(at + 1);
                bad(broken, 0, FORM, at);
                bad("d1;d2;" + broken, 6, FORM, at);
            }
        }
        bad("s000,0000", 0, FORM, 8);
        bad("g012,060,0090;", 0, FORM, 12);
        bad("g012,060,009?", 0, FORM, 12);
    }

    @Edge(promise = 24, says = "(of one that the text ends too early it is its length),")
    static void causeAtTheTextsEnd() {
        String[] orders = {"s0,9;", "s000,009;", "g12,60,9;", "g012,060,009;", "x0;", "x000;", "p5;", "d1;", "d060;"};
        for (String order : orders) {
            for (int length = 1; length < order.length(); length++) {
                bad(order.substring(0, length), 0, FORM, length);
                bad("d1;" + order.substring(0, length), 3, FORM, length);
            }
        }
        bad(repeated("d1;", 19) + "d01", 57, FORM, 3);
        bad(repeated("d1;", 15) + "d1;g012,060,009", 48, FORM, 12);
        bad(repeated("d10;", 14) + "d1;s", 59, FORM, 1);
    }

    @Edge(promise = 24, says = "and with the reason 2 the error code that the call returns for it.")
    static void causeOfTheCall() {
        String[] texts = {"s3,1;", "s0,31;", "s0,10;", "s2,1;", "g0,0,1;", "g1,61,1;", "g1,0,10;", "x1;", "p0;", "p501;",
            "p6;", "d0;", "d61;"};
        for (String text : texts) {
            HutLoaves called = hut();
            int a = Integer.parseInt(text.substring(1, text.length() - 1).split(",")[0]);
            int b = text.charAt(0) == 's' ? Integer.parseInt(text.substring(3, text.length() - 1)) : 0;
            int code = 0;
            switch (text.charAt(0)) {
                case 's':
                    code = called.send(a, b);
                    break;
                case 'x':
                    code = called.off(a);
                    break;
                case 'p':
                    code = called.pay(a);
                    break;
                case 'd':
                    code = called.end(a);
                    break;
                default:
                    code = Checks.INVALID;
                    break;
            }
            bad(text, 0, CALL, code);
        }
        HutLoaves full = hut();
        for (int k = 0; k < 9; k++) {
            full.group(1, 9, 1);
        }
        Checks.fault(full, "g1,0,1;", 0, CALL, Checks.LIMIT);
        Checks.fault(full, "x3;g1,0,1;g1,0,1;", 10, CALL, Checks.LIMIT);
        Checks.fault(Edges.onDay(9999), "d1;", 0, CALL, Checks.LIMIT);
    }

    // ---- type

    @Edge(promise = 22, says = "Appends a character to the text.")
    static void typeAppends() {
        HutLoaves hut = new HutLoaves();
        hut.type('d');
        hut.type('4');
        hut.type('2');
        hut.type(';');
        Checks.due("play()", hut.play(), 1);
        Checks.due("the day", hut.count(3), 42);
        hut.type('?');
        Checks.due("the fault is of the last one", hut.fault(0), 4);
    }

    @Edge(promise = 22, says = "`character`: 32 to 126")
    static void argumentCharacter() {
        Edges.taken("type(character)", character -> new HutLoaves().type(character), 32, 126);
        Edges.outside("type(character)", character -> new HutLoaves().type(character), 32, 126);
    }

    @Edge(promise = 22, says = "Returns the length of the text;")
    static void typeReturnsTheLength() {
        HutLoaves hut = new HutLoaves();
        for (int length = 1; length <= 60; length++) {
            Checks.due("type(32)", hut.type(32), length);
        }
        hut.clearText();
        Checks.due("after clearText()", hut.type(126), 1);
    }

    @Edge(promise = 22, says = "INVALID_ARGUMENT if character is out of range;")
    static void typeOutOfRange() {
        HutLoaves hut = new HutLoaves();
        Checks.due("type(31)", hut.type(31), Checks.INVALID);
        Checks.due("type(127)", hut.type(127), Checks.INVALID);
        Checks.due("type('d' + 65536)", hut.type('d' + 65536), Checks.INVALID);
        Checks.due("type('d' + 256)", hut.type('d' + 256), Checks.INVALID);
        Checks.due("type('d' - 256)", hut.type('d' - 256), Checks.INVALID);
        Checks.due("length", hut.count(19), 0);
    }

    @Edge(promise = 22, says = "LIMIT_REACHED if it has 60 characters.")
    static void typeLimit() {
        HutLoaves hut = new HutLoaves();
        for (int k = 0; k < 59; k++) {
            hut.type('d');
        }
        Checks.due("with 59", hut.type('d'), 60);
        Checks.due("with 60", hut.type('d'), Checks.LIMIT);
        Checks.due("again", hut.type(32), Checks.LIMIT);
        Checks.due("length", hut.count(19), 60);
        hut.clearText();
        Checks.due("with none", hut.type('d'), 1);
    }

    // ---- clearText

    @Edge(promise = 23, says = "Empties the text.")
    static void clearTextEmpties() {
        HutLoaves hut = new HutLoaves();
        Checks.write(hut, "d1;d2;q");
        hut.clearText();
        Checks.due("length", hut.count(19), 0);
        Checks.due("no fault", hut.fault(0), Checks.MISSING);
        Checks.due("no orders", hut.play(), 0);
        hut.type('d');
        Checks.due("nothing of the old text comes back", hut.fault(2), 1);
        Checks.due("play()", hut.play(), Checks.IMPOSSIBLE);
    }

    @Edge(promise = 23, says = "Returns the length it had.")
    static void clearTextReturnsTheLength() {
        HutLoaves hut = new HutLoaves();
        Checks.due("an empty one", hut.clearText(), 0);
        hut.type('d');
        Checks.due("one character", hut.clearText(), 1);
        Checks.due("none any more", hut.clearText(), 0);
        for (int k = 0; k < 61; k++) {
            hut.type('d');
        }
        Checks.due("a full one", hut.clearText(), 60);
        Checks.due("none any more", hut.clearText(), 0);
    }

    // ---- fault

    @Edge(promise = 24, says = "Tells about the fault of the text.")
    static void faultChangesNothing() {
        HutLoaves asked = hut();
        HutLoaves twin = hut();
        Checks.write(asked, "s0,9;g1,0,1;x0;p1;d60;x7;");
        Checks.write(twin, "s0,9;g1,0,1;x0;p1;d60;x7;");
        Checks.due("fault(0)", asked.fault(0), 22);
        Everything.same("fault", asked, twin);
        asked.type(' ');
        Checks.due("fault(0) is the same", asked.fault(0), 22);
        asked.clearText();
        Checks.due("fault(0) is none", asked.fault(0), Checks.MISSING);
    }

    @Edge(promise = 24, says = "Tells about the fault of the text.")
    static void faultGoesByTheStateOfNow() {
        HutLoaves hut = hut();
        Checks.write(hut, "s0,9;");
        Checks.due("at home", hut.fault(0), Checks.MISSING);
        hut.send(0, 1);
        Checks.due("away", hut.fault(2), Checks.IMPOSSIBLE);
        hut.end(4);
        Checks.due("at home again", hut.fault(2), Checks.MISSING);
        hut.undo();
        Checks.due("away, after undo", hut.fault(2), Checks.IMPOSSIBLE);
    }

    @Edge(promise = 24, says = "`what`: 0: its position;")
    static void itsPosition() {
        HutLoaves hut = hut();
        Checks.write(hut, "d1;x9;");
        Checks.due("fault(0)", hut.fault(0), 3);
        Checks.write(hut, "x9;d1;");
        Checks.due("fault(0)", hut.fault(0), 0);
        Checks.write(hut, repeated("d10;", 14) + "d1;q");
        Checks.due("the last of 60", hut.fault(0), 59);
    }

    @Edge(promise = 24, says = "1: its reason;")
    static void itsReason() {
        HutLoaves hut = hut();
        Checks.write(hut, "d1;x9");
        Checks.due("the form", hut.fault(1), 1);
        hut.type(';');
        Checks.due("the call", hut.fault(1), 2);
    }

    @Edge(promise = 24, says = "2: its cause")
    static void itsCause() {
        HutLoaves hut = hut();
        Checks.write(hut, "d1;x9");
        Checks.due("where it breaks off", hut.fault(2), 2);
        hut.type(';');
        Checks.due("its error code", hut.fault(2), Checks.INVALID);
        Checks.write(hut, "q");
        Checks.due("at its first character", hut.fault(2), 0);
    }

    @Edge(promise = 24, says = "Returns that;")
    static void faultReturnsThat() {
        bad("d1;d12", 3, FORM, 3);
        bad("d1;d1;x9;", 6, CALL, Checks.INVALID);
        bad("d1;p500;", 3, CALL, Checks.IMPOSSIBLE);
    }

    @Edge(promise = 24, says = "INVALID_ARGUMENT if what is out of range;")
    static void faultOutOfRange() {
        HutLoaves hut = hut();
        Edges.outside("fault(what) of no text", hut::fault, 0, 2);
        Checks.write(hut, "q");
        Edges.outside("fault(what) of a fault", hut::fault, 0, 2);
        Edges.taken("fault(what) of a fault", hut::fault, 0, 2);
        Checks.write(hut, "d1;");
        Edges.outside("fault(what) of no fault", hut::fault, 0, 2);
    }

    @Edge(promise = 24, says = "NOT_FOUND if the text has no fault (also if it is empty).")
    static void faultNotFound() {
        Checks.noFault(new HutLoaves(), "");
        good("");
        good("d1;");
        good("s0,9;s1,20;g12,60,9;x0;p5;d1;");
        good(repeated("d1;", 20));
        good(repeated("d60;", 15));
    }

    // ---- play

    @Edge(promise = 25, says = "Does all orders of the text, which stays.")
    static void playDoesAllOrders() {
        HutLoaves hut = played("s0,9;d1;g3,1,2;x0;p4;d2;", 6);
        HutLoaves called = hut();
        called.send(0, 9);
        called.end(1);
        called.group(3, 1, 2);
        called.off(0);
        called.pay(4);
        called.end(2);
        for (int what = 0; what <= 17; what++) {
            Checks.due("count(" + what + ")", hut.count(what), called.count(what));
        }
        Checks.due("length", hut.count(19), 24);
        Checks.due("the mule is away, so it cannot be done again", hut.play(), Checks.IMPOSSIBLE);
        hut = played("d1;d2;", 2);
        Checks.due("play() again", hut.play(), 2);
        Checks.due("the day", hut.count(3), 7);
    }

    /** Without snow, with a text of two orders; what was asked, refused or undone must not be seen in them. */
    private static void playAfter(String what, ToIntFunction<HutLoaves> asked) {
        HutLoaves hut = hut();
        Checks.write(hut, "s1,20;d3;");
        HutLoaves twin = hut();
        Checks.write(twin, "s1,20;d3;");
        asked.applyAsInt(hut);
        Checks.due("play() after " + what, hut.play(), 2);
        Checks.due("play()", twin.play(), 2);
        Everything.same("play after " + what, hut, twin);
    }

    @Edge(promise = 25, says = "Does all orders of the text, which stays.")
    static void playGoesByTheStateOfNow() {
        playAfter("would", hut -> hut.would(60, 0));
        playAfter("hungry", HutLoaves::hungry);
        playAfter("fault", hut -> hut.fault(0));
        playAfter("a refused call", hut -> hut.group(13, 0, 1));
        playAfter("another refused call", hut -> hut.send(1, 21));
        HutLoaves hut = hut();
        Checks.write(hut, "d1;");
        hut.end(50);
        hut.undo();
        Checks.due("play() after undo", hut.play(), 1);
        Checks.due("the day", hut.count(3), 2);
    }

    @Edge(promise = 25, says = "They are one change, also if there are none.")
    static void playIsOneChange() {
        HutLoaves hut = new HutLoaves();
        Checks.due("no orders", hut.play(), 0);
        Checks.due("states", hut.count(18), 1);
        Checks.write(hut, repeated("d1;", 20));
        Checks.due("20 orders", hut.play(), 20);
        Checks.due("states", hut.count(18), 2);
        Checks.due("undo()", hut.undo(), 1);
        Checks.due("the day", hut.count(3), 0);
        Checks.due("undo()", hut.undo(), 0);
        Checks.due("undo()", hut.undo(), Checks.IMPOSSIBLE);
        for (int k = 0; k < 5; k++) {
            hut.end(1);
        }
        hut.clearText();
        Checks.due("no orders, with a full history", hut.play(), 0);
        Checks.due("undo()", hut.undo(), 3);
        Checks.due("the day", hut.count(3), 5);
        for (int day = 4; day >= 2; day--) {
            hut.undo();
            Checks.due("the day", hut.count(3), day);
        }
        Checks.due("the oldest state is dropped", hut.undo(), Checks.IMPOSSIBLE);
    }

    @Edge(promise = 25, says = "Returns how many there are in it;")
    static void playReturnsHowMany() {
        played("", 0);
        played("d1;", 1);
        played("s0,9;s1,20;g12,60,9;x0;p5;d1;", 6);
        played(repeated("d1;", 20), 20);
    }

    @Edge(promise = 25, says = "NOT_POSSIBLE if it has a fault.")
    static void playNotPossible() {
        String[] texts = {"q", "d1", "d1;q", "d0;", "d1;d0;", "s3,1;", "p501;", "g1,1,1;x0;x0;", "s0,9;s0,9;"};
        for (String text : texts) {
            HutLoaves hut = hut();
            Checks.write(hut, text);
            Checks.due("play() of " + text, hut.play(), Checks.IMPOSSIBLE);
            Checks.due("the day after " + text, hut.count(3), 1);
            Checks.due("the mule after " + text, hut.muleOf(0, 2), 0);
            Checks.due("groups so far after " + text, hut.count(2), 1);
            Checks.due("length after " + text, hut.count(19), text.length());
        }
        HutLoaves late = Edges.onDay(9999);
        Checks.write(late, "d1;");
        Checks.due("also if its cause is another code", late.play(), Checks.IMPOSSIBLE);
    }
}
