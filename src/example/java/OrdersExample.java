/** Orders that are typed as a text, looked through for a fault, and done as one change. */
public final class OrdersExample {
    public static void main(String[] args) {
        HutLoaves hut = new HutLoaves();
        hut.mule(10, 2);
        write(hut, "g4,2,3;s0,10;d4;p12;");  // a group of 4 in 2 days for 3 nights, 10 loaves, 4 days, 12 paid
        System.out.println(hut.fault(0) == HutLoaves.NOT_FOUND);  // true: the text has no fault
        System.out.println(hut.play());          // 4: so many orders are done
        System.out.println(hut.count(3));        // 4: the day
        System.out.println(hut.count(6));        // 8: the debt, 20 less 12
        System.out.println(hut.undo());          // 1: all four are undone at once; the mule's coming is left
        System.out.println(hut.count(3));        // 0: the day

        write(hut, "s0,5;p1;d1;");
        System.out.println(hut.fault(0));        // 5: the fault begins at the "p"
        System.out.println(hut.fault(1));        // 2: its form is right, but it cannot be done
        System.out.println(hut.fault(2));        // -1000002: the call would be NOT_POSSIBLE, there is no money
        System.out.println(hut.play() == HutLoaves.NOT_POSSIBLE);  // true: nothing of it is done

        write(hut, "d1;g4,,3;");
        System.out.println(hut.fault(0));        // 3: the fault begins at the "g"
        System.out.println(hut.fault(1));        // 1: it is not of the form
        System.out.println(hut.fault(2));        // 3: it breaks off at its second ",", where a digit should be
    }

    private static void write(HutLoaves hut, String text) {
        hut.clearText();
        for (char sign : text.toCharArray()) {
            hut.type(sign);
        }
    }
}
