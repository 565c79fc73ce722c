/** Two mules, a group of guests, and days that end. */
public final class Example {
    public static void main(String[] args) {
        HutLoaves hut = new HutLoaves();
        System.out.println(hut.mule(10, 2));     // 0: the number of a mule with load 10 and strength 2
        System.out.println(hut.mule(4, 1));      // 1: the number of one with load 4 and strength 1
        System.out.println(hut.group(6, 1, 4));  // 0: the number of a group of 6, from tomorrow on, for 4 nights
        System.out.println(hut.wanted(1));       // 3: the loaves that are wanted tomorrow

        System.out.println(hut.hungry());        // 2: without bread they are hungry when the second day ends
        System.out.println(hut.next(0));         // 0: the mule that should go
        System.out.println(hut.next(1));         // 10: the loaves that it can take
        System.out.println(hut.send(0, 10));     // 20: the debt at the baker's, 2 for each loaf
        System.out.println(hut.hungry());        // 5: with 10 loaves they are hungry when the fifth day ends

        System.out.println(hut.why(0, 10));      // 1: the mule cannot go again, it is not at home
        System.out.println(hut.send(0, 10) == HutLoaves.NOT_POSSIBLE);  // true: an error, and nothing is changed
        System.out.println(hut.send(9, 10) == HutLoaves.INVALID_ARGUMENT);  // true: there is no mule 9

        System.out.println(hut.would(4, 1));     // 54: the money, if 4 days ended
        System.out.println(hut.end(4));          // 9: 4 days end, and so many loaves are eaten in them
        System.out.println(hut.count(3));        // 4: the day
        System.out.println(hut.count(5));        // 54: the money
        System.out.println(hut.groupOf(0, 5));   // 54: what the group paid, 3 for each person on 3 days
        System.out.println(hut.pay(20));         // 0: the debt, when it is paid
        System.out.println(hut.muleOf(0, 2));    // 0: the mule is at home again
        System.out.println(hut.rest(0));         // 1: so often it had been sent

        System.out.println(hut.loaves(4));       // 1: loaves of the hut that were baked 4 days ago
        System.out.println(Float.intBitsToFloat(hut.mean()));  // 4.0: the mean age of the hut's loaves
        System.out.println(hut.set(2, 4));       // 3: loaves were fresh for 3 days, now they are for 4
        System.out.println(hut.off(0));          // 0: the group is called off, and none is booked
        System.out.println(hut.number(0) == HutLoaves.NOT_FOUND);  // true: so there is no lowest one
        System.out.println(hut.undo());          // 3: it is booked again; so many states are left in the history
        System.out.println(hut.number(0));       // 0: the lowest one that is booked
    }
}
