/** Which rows of bytes are messages: those that are not change nothing, at the server and at the client. */
public final class MessagesTest {
    private static final Checks c = new Checks();
    /** A get of path a with SZX 0, up to its path, and the same up to its token. */
    private static final int[] GET_A = {65, 1, 0, 77, 9, 177, 97};
    private static final int[] GET = {65, 1, 0, 77, 9};

    public static void main(String[] args) {
        heads();
        optionHeads();
        watches();
        segments();
        blocks();
        payloads();
        shortRows();
        atTheClient();
        emptyMessages();
        c.finish("MessagesTest");
    }

    /** The code of the answer to a request, or 0 when it is ignored. */
    private static int codeFor(int... row) {
        ObservedBlocks x = new ObservedBlocks();
        Checks.bringToServer(x, row);
        if (x.waiting() == 0) {
            c.due("ignored and not handled", x.server(0), 0);
            return 0;
        }
        c.due("handled", x.server(0), 1);
        c.due("token", x.datagram(0, 4), row[4]);
        return x.datagram(0, 1);
    }

    private static void dueCode(String what, int want, int... row) {
        c.due(what, codeFor(row), want);
    }

    private static int[] zeros(int count) {
        return new int[count];
    }

    private static void heads() {
        dueCode("a get", 69, Checks.join(GET_A, 192));
        for (int first : new int[] {81, 97, 113, 64, 66, 72, 80, 1, 129, 193, 255, 0, 63, 128}) {
            dueCode("first byte " + first, 0, first, 1, 0, 77, 9, 177, 97, 192);
        }
        for (int code : new int[] {0, 2, 4, 67, 68, 69, 95, 255}) {
            dueCode("code " + code, 0, 65, code, 0, 77, 9, 177, 97, 192);
        }
        dueCode("code 0 and more than four bytes", 0, 64, 0, 0, 77, 9, 177, 97, 192);
        dueCode("a put", 68, 65, 3, 0, 77, 9, 177, 97, 208, 3);
        dueCode("ID 0 and token 255", 69, 65, 1, 0, 0, 255, 177, 97, 192);
        dueCode("ID 65535 and token 0", 69, 65, 1, 255, 255, 0, 177, 97, 192);
    }

    private static void optionHeads() {
        dueCode("number 5", 0, Checks.join(GET, 80, 81, 97, 193, 1));
        dueCode("number 7", 0, Checks.join(GET, 112, 65, 97, 193, 1));
        dueCode("number 0", 0, Checks.join(GET, 0, 177, 97, 192));
        dueCode("number 12", 0, Checks.join(GET_A, 16, 176));
        dueCode("number 22", 0, Checks.join(GET_A, 176, 16));
        dueCode("number 24", 0, Checks.join(GET_A, 208, 0));
        dueCode("number 28", 0, Checks.join(GET_A, 192, 80));
        dueCode("number far off", 0, Checks.join(GET_A, 208, 255));
        dueCode("BLOCK2 and BLOCK1", 69, Checks.join(GET_A, 192, 64));
        dueCode("BLOCK2 twice", 0, Checks.join(GET_A, 192, 0));
        dueCode("BLOCK1 twice", 0, Checks.join(GET_A, 192, 64, 0));
        dueCode("WATCH twice", 0, Checks.join(GET, 96, 0, 81, 97, 192));
        dueCode("all options", 69, Checks.join(GET, 97, 7, 81, 97, 1, 98, 193, 1, 65, 1));
        dueCode("a step of 14", 0, Checks.join(GET_A, 224, 192));
        dueCode("a step of 15", 0, Checks.join(GET_A, 240, 192));
        dueCode("a value of 13 bytes", 0, Checks.join(Checks.join(GET, 189), Checks.join(zeros(13), 192)));
        dueCode("a value of 15 bytes", 0, Checks.join(Checks.join(GET, 191), Checks.join(zeros(15), 192)));
        dueCode("a long step that is cut off", 0, Checks.join(GET_A, 208));
        dueCode("a value that is cut off", 0, Checks.join(GET_A, 193));
        dueCode("a value that is cut off by one byte of two", 0, Checks.join(GET_A, 194, 1));
    }

    private static void watches() {
        int[] rest = {81, 97, 192};
        dueCode("WATCH 0", 69, Checks.join(Checks.join(GET, 96), rest));
        dueCode("WATCH 0 in a byte", 0, Checks.join(Checks.join(GET, 97, 0), rest));
        dueCode("WATCH 255", 69, Checks.join(Checks.join(GET, 97, 255), rest));
        dueCode("WATCH 255 in two bytes", 0, Checks.join(Checks.join(GET, 98, 0, 255), rest));
        dueCode("WATCH 256", 69, Checks.join(Checks.join(GET, 98, 1, 0), rest));
        dueCode("WATCH 65535", 69, Checks.join(Checks.join(GET, 98, 255, 255), rest));
        dueCode("WATCH 65536", 0, Checks.join(Checks.join(GET, 99, 1, 0, 0), rest));
        dueCode("WATCH 1 in three bytes", 0, Checks.join(Checks.join(GET, 99, 0, 0, 1), rest));
    }

    private static void segments() {
        dueCode("none", 132, Checks.join(GET, 208, 10, 255, 1));
        dueCode("a, b", 69, Checks.join(GET, 177, 97, 1, 98, 192));
        dueCode("cc", 69, Checks.join(GET, 178, 99, 99, 192));
        dueCode("cc, d", 69, Checks.join(GET, 178, 99, 99, 1, 100, 192));
        dueCode("x", 132, Checks.join(GET, 177, 120, 192));
        dueCode("b", 132, Checks.join(GET, 177, 98, 192));
        dueCode("b, a", 132, Checks.join(GET, 177, 98, 1, 97, 192));
        dueCode("a, d", 132, Checks.join(GET, 177, 97, 1, 100, 192));
        dueCode("a, a", 132, Checks.join(GET, 177, 97, 1, 97, 192));
        dueCode("ab", 132, Checks.join(GET, 178, 97, 98, 192));
        dueCode("c", 132, Checks.join(GET, 177, 99, 192));
        dueCode("ccc", 132, Checks.join(GET, 179, 99, 99, 99, 192));
        dueCode("A", 132, Checks.join(GET, 177, 65, 192));
        dueCode("a and an empty one", 132, Checks.join(GET_A, 0, 192));
        dueCode("an empty one and a", 132, Checks.join(GET, 176, 1, 97, 192));
        dueCode("an empty one alone", 132, Checks.join(GET, 176, 193, 1));
        dueCode("three", 0, Checks.join(GET, 177, 97, 1, 98, 1, 99, 192));
        dueCode("three, the last one empty", 0, Checks.join(GET, 177, 97, 1, 98, 0, 192));
        dueCode("twelve bytes", 132, Checks.join(Checks.join(GET, 188), Checks.join(zeros(12), 192)));
        dueCode("twice twelve bytes", 132,
            Checks.join(Checks.join(GET, 188), Checks.join(zeros(12), Checks.join(Checks.row(12), Checks.join(zeros(12), 192)))));
    }

    private static void blocks() {
        dueCode("SZX 1", 69, Checks.join(GET_A, 193, 1));
        dueCode("MORE 1", 69, Checks.join(GET_A, 193, 8));
        dueCode("SZX 2", 0, Checks.join(GET_A, 193, 2));
        dueCode("SZX 4", 0, Checks.join(GET_A, 193, 4));
        dueCode("SZX 7", 0, Checks.join(GET_A, 193, 7));
        dueCode("0 in a byte", 0, Checks.join(GET_A, 193, 0));
        dueCode("1 in two bytes", 0, Checks.join(GET_A, 194, 0, 1));
        dueCode("255 has no SZX", 0, Checks.join(GET_A, 193, 255));
        dueCode("256", 130, Checks.join(GET_A, 194, 1, 0));
        dueCode("1017, the highest", 130, Checks.join(GET_A, 194, 3, 249));
        dueCode("1023 has no SZX", 0, Checks.join(GET_A, 194, 3, 255));
        dueCode("1024", 0, Checks.join(GET_A, 194, 4, 0));
        dueCode("1025", 0, Checks.join(GET_A, 194, 4, 1));
        dueCode("65536", 0, Checks.join(GET_A, 195, 1, 0, 0));
        int[] put = {65, 3, 0, 77, 9, 177, 97};
        dueCode("BLOCK1 with MORE 1", 95, Checks.join(put, 209, 3, 8));
        dueCode("BLOCK1 with SZX 3", 0, Checks.join(put, 209, 3, 3));
        dueCode("BLOCK1, 0 in a byte", 0, Checks.join(put, 209, 3, 0));
        dueCode("BLOCK1, 1017", 136, Checks.join(put, 210, 3, 3, 249));
        dueCode("BLOCK1, 1024", 0, Checks.join(put, 210, 3, 4, 0));
        dueCode("without BLOCK2", 130, Checks.join(GET_A, 255, 1));
        dueCode("with BLOCK1 in its stead", 130, Checks.join(GET_A, 208, 3));
        dueCode("without BLOCK1", 130, Checks.join(put, 255, 1));
        dueCode("with BLOCK2 in its stead", 130, Checks.join(put, 192));
    }

    private static void payloads() {
        int[] head = Checks.join(GET_A, 192);
        dueCode("of one byte", 69, Checks.join(head, 255, 0));
        dueCode("of one byte 255", 69, Checks.join(head, 255, 255));
        dueCode("of none", 0, Checks.join(head, 255));
        dueCode("of 32", 69, Checks.join(head, Checks.payload(zeros(32))));
        dueCode("of 33", 0, Checks.join(head, Checks.payload(zeros(33))));
        dueCode("of 37", 0, Checks.join(head, Checks.payload(zeros(37))));
        dueCode("without options", 132, Checks.join(GET, 255, 1, 2));
    }

    private static void shortRows() {
        // Four bytes that go to the server: the answer to a content that no slot watches.
        int[][] rows = {{65, 1, 0, 9}, {65, 3, 0, 9}, {64, 1, 0, 9}, {65, 0, 0, 9}};
        for (int[] row : rows) {
            ObservedBlocks x = new ObservedBlocks();
            Checks.bringToClient(x, 300, 65, 69, 0, 9, 99, 209, 10, 1);
            c.dueDatagram("RST", x, 0, 1, 112, 0, 0, 9);
            Checks.write(x, 0, row);
            x.deliver(0);
            c.due("four bytes are no request", x.server(0), 1);
            c.due("four bytes are no request", x.waiting(), 0);
        }
    }

    private static void atTheClient() {
        // Each row differs from a good answer to slot 0, ID 1, token 2.
        int[][] rows = {{81, 69, 0, 1, 2, 209, 10, 1}, {96, 69, 0, 1, 2, 209, 10, 1}, {113, 69, 0, 1, 2, 209, 10, 1},
            {97, 69, 0, 1, 2, 209, 10, 2}, {97, 69, 0, 1, 2, 210, 10, 1}, {97, 69, 0, 1, 2, 209, 9, 1},
            {97, 0, 0, 1, 2, 209, 10, 1}, {225, 69, 0, 1, 2, 209, 10, 1}, {97, 69, 0, 1, 2, 208, 10, 255},
            {97, 69, 0, 1, 4, 209, 10, 1}, {97, 69, 0, 2, 2, 209, 10, 1}, {97, 69, 1, 1, 2, 209, 10, 1}};
        for (int[] row : rows) {
            ObservedBlocks x = new ObservedBlocks();
            x.get(0, 0, 1, false);
            Checks.bringToClient(x, 300, row);
            c.dueSlot("it goes on asking", x, 0, 1, 2, 0, 0, 0, 0, 0);
            c.due("nothing is sent", x.waiting(), 1);
            Checks.bringToClient(x, 301, 97, 69, 0, 1, 2, 209, 10, 1);
            c.dueSlot("the good answer", x, 0, 2, 2, 0, 0, 0, 0, 0);
        }
    }

    private static void emptyMessages() {
        // An ACK with code 0 is a message, but has no token that could be a slot's.
        ObservedBlocks x = new ObservedBlocks();
        x.get(0, 0, 0, true);
        Checks.deliverAll(x);
        x.change(0, 1, 1);
        for (int first : new int[] {64, 80, 97, 65, 224, 32}) {
            x.repeat(0);
            x.deliver(1);
            x.spoil(1, 0, 96 ^ first);
            x.deliver(1);
        }
        x.change(0, 2, 1);
        c.due("none of them was taken for an ACK", x.waiting(), 1);
        x.deliver(0);
        x.deliver(0);
        c.due("this is", x.waiting(), 1);
    }
}
