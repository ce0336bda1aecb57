/** README.md shows this program whole; ReadmeTest sees that it prints what its comments say. */
public final class Example {
    public static void main(String[] args) {
        SignatureSpans x = new SignatureSpans();
        for (int i = 0; i < 5; i++) {
            x.add((byte) i);
        }
        System.out.println(x.add((byte) 5));       // 6: so many bytes the file has
        System.out.println(x.place(2, 4));         // 0: the place's number; it is of bytes 2 and 3
        System.out.println(x.sign(7, true, 100));  // 0: the signature's number; field 7, a good verdict, time 100
        System.out.println(x.span(0, 0, 1));       // 2: its first span ends where its place begins
        System.out.println(x.span(0, 1, 0));       // 4: its second one begins where that ends
        System.out.println(x.digest(0, 31));       // 75: the last byte of SHA-256 of bytes 0, 1, 4, 5
        System.out.println(x.holds(0));            // 7: its chain has no row
        System.out.println(x.chain(0, 0, 200));    // 1: so many rows its chain has; this one has the time 100
        System.out.println(x.holds(0));            // 1: it holds

        System.out.println(x.poke(2, 255));        // 253: a byte of its place is another one
        System.out.println(x.holds(0));            // 1: it still holds
        System.out.println(x.poke(0, 255));        // 255: a byte that its digest is of is another one
        System.out.println(x.holds(0));            // 5: the bytes have another digest
        System.out.println(x.poke(0, 255));        // 0: that byte is as before
        x.tell(0, 1, 4, 5);
        System.out.println(x.holds(0));            // 4: its second span does not end at its end
        x.tell(0, 1, 4, 6);
        System.out.println(x.holds(0));            // 1: it holds again

        System.out.println(x.stamp(300));          // 0: the stamp's number
        System.out.println(x.add((byte) 6));       // 7: the file has grown
        System.out.println(x.behind(0));           // 1: one byte is behind the signature's end
        System.out.println(x.stamp(200));          // 1: a second stamp, of an earlier time
        System.out.println(x.stamped(0, 0));       // 1: so it is the first one in order
        System.out.println(x.poke(6, 1));          // 7: the byte behind is another one
        System.out.println(x.stamped(0, 3));       // 0: stamp 1 is of that byte, too, and is not good
        System.out.println(x.stamped(1, 3));       // 1: stamp 0 is of 6 bytes, and is good

        System.out.println(x.change(0, 3));        // 1: so many changes there are; field 3 is filled
        System.out.println(x.certify(0, 2));       // 1: it certifies, and allows changes of kind 0 alone
        System.out.println(x.holds(0));            // 1: the change is of kind 0
        System.out.println(x.lock(0, 3));          // 1: it locks field 3
        System.out.println(x.since(0, -1, 0));     // 1: so many changes are since it
        System.out.println(x.since(0, 0, 2));      // 0: change 0 of these is not allowed
        System.out.println(x.allow(0, 14));        // 15: it allowed all kinds before; now kinds 1, 2 and 3
        System.out.println(x.holds(0));            // 8: a change since it is not one that it allows

        try {
            x.place(3, 5);
        } catch (IllegalArgumentException e) {
            System.out.println("refused");         // refused: byte 3 is one of place 0
        }
        System.out.println(x.place(4, 5));         // 1: the call that threw made no place
    }
}
