/**
 * The terms PACKET and FRAME, at all four places where a packet comes to: a host, the switch (from a host),
 * a server and the switch (from a server).
 */
public final class PacketTest {
    private static final int KEY = 41;

    public static void main(String[] args) {
        threeToTwentyBytes();
        requestsAndResponsesHaveType();
        dataOfAnySize();
        nothingBehindSuccessAndFailure();
        otherCodes();
        lengthIsHowManyBytes();
        frameOfOneByte();
        frameOfPacket();
        allElseIsWrong();
        wrongIsCountedAndNothingElse();
        Check.end();
    }

    /** A row comes to its place; if it is due to be counted as wrong there, nothing else may happen. */
    private static void comes(String what, Bench b, int way, int place, int wrongs, int... row) {
        int who = way == 1 ? 1 : way == 2 ? 2 : 0;
        if (wrongs == 0) {
            b.bring(way, place, row);
        } else {
            b.idle(what, way, place, row);
        }
        Check.due(what + " is counted", b.x.wrong(who), wrongs);
        Check.due(what + " is counted elsewhere", b.x.wrong(0) + b.x.wrong(1) + b.x.wrong(2) - wrongs, 0);
    }

    /** To a host that has proof, so that any RIGHT request, SUCCESS or FAILURE changes something. */
    private static void atHost(String what, int wrongs, int... frame) {
        Bench b = new Bench(KEY);
        b.x.host(1, 6, 5, 3);
        b.bring(1, 1, 0, 1, 50, 8, 4, 1, 2, 3, 4);
        comes(what + " at a host", b, 1, 1, wrongs, frame);
    }

    /** To the switch, which awaits a response with id 0. */
    private static void atSwitch(String what, int wrongs, int... frame) {
        Bench b = new Bench(KEY);
        b.x.link(1, true);
        comes(what + " at the switch", b, 0, 1, wrongs, frame);
    }

    private static void inRequest(String what, int wrongs, int... packet) {
        Bench b = new Bench(KEY);
        b.x.user(1, 5, 1);
        comes(what + " in a request", b, 2, 1, wrongs, Wire.request(KEY, 3, 4, 5, -1, packet));
        Check.due(what + " is answered", b.waiting(), 1 - wrongs);
    }

    private static void inAnswer(String what, int wrongs, int... packet) {
        Bench b = new Bench(KEY);
        b.query(1, 6);
        int code = packet.length == 0 || packet[0] < 3 ? 11 : packet[0] == 3 ? 2 : 3;
        int[] answer = Wire.answer(KEY, code, 0, Wire.authenticator(KEY, 0), -1, packet);
        comes(what + " in an answer", b, 3, 0, wrongs, answer);
        Check.due(what + " leaves the query", b.x.port(1, 6), wrongs);
    }

    private static void right(int... packet) {
        String what = java.util.Arrays.toString(packet);
        atHost(what, 0, Wire.frame(packet));
        atSwitch(what, 0, Wire.frame(packet));
        inRequest(what, 0, packet);
        inAnswer(what + " (where no response may be)", packet[0] == 2 ? 1 : 0, packet);
    }

    private static void wrong(int... packet) {
        String what = java.util.Arrays.toString(packet);
        atHost(what, 1, Wire.frame(packet));
        atSwitch(what, 1, Wire.frame(packet));
        inRequest(what, 1, packet);
        inAnswer(what, 1, packet);
    }

    private static void wrongFrame(int... frame) {
        String what = java.util.Arrays.toString(frame);
        atHost(what, 1, frame);
        atSwitch(what, 1, frame);
    }

    private static void rightFrame(int... frame) {
        String what = java.util.Arrays.toString(frame);
        atHost(what, 0, frame);
        atSwitch(what, 0, frame);
    }

    /** A request with this many bytes in all. */
    private static int[] request(int size) {
        int[] typeAndData = new int[size - 3];
        java.util.Arrays.fill(typeAndData, 1);
        return Wire.packet(1, 7, typeAndData);
    }

    private static void threeToTwentyBytes() {
        Check.says("A PACKET is a row of 3 to 20 bytes");
        wrong();
        wrong(3);
        wrong(3, 2);
        wrong(3, 3);
        right(3, 3, 3);
        right(request(19));
        right(request(20));
        wrong(request(21));
        wrong(request(22));
        wrongFrame(Wire.frame(request(47)));
    }

    private static void requestsAndResponsesHaveType() {
        Check.says("It is RIGHT if CODE is 1 or 2 and there is a TYPE");
        wrong(1, 0, 3);
        wrong(2, 0, 3);
        right(1, 0, 4, 0);
        right(2, 0, 4, 0);
        right(1, 255, 4, 255);
        right(2, 255, 4, 255);
    }

    private static void dataOfAnySize() {
        Check.says("DATA (any number of bytes)");
        for (int size = 4; size <= 20; size++) {
            right(request(size));
        }
    }

    private static void nothingBehindSuccessAndFailure() {
        Check.says("CODE is 3 (SUCCESS) or 4 (FAILURE) and nothing is behind the three bytes");
        for (int code = 3; code <= 4; code++) {
            right(code, 9, 3);
            wrong(code, 9, 4, 1);
            wrong(code, 9, 3, 1);
            wrong(code, 9, 5, 1, 1);
        }
    }

    private static void otherCodes() {
        Check.says("if CODE is 1 or 2 ..., or CODE is 3 (SUCCESS) or 4 (FAILURE)");
        for (int code : new int[] {0, 5, 6, 128, 255}) {
            wrong(code, 0, 3);
            wrong(code, 0, 4, 1);
        }
    }

    private static void lengthIsHowManyBytes() {
        Check.says("and LENGTH is how many bytes it has");
        int[][] packets = {{3, 0, 3}, {4, 0, 3}, {1, 0, 4, 1}, {2, 0, 5, 1, 1}, request(8), request(19), request(20)};
        for (int[] packet : packets) {
            right(packet);
            for (int length : new int[] {0, packet.length - 1, packet.length + 1, 255}) {
                wrong(Wire.with(packet, 2, Wire.row(length)));
            }
        }
    }

    private static void frameOfOneByte() {
        Check.says("A FRAME is one byte 1 (START), one byte 2 (LOGOFF)");
        rightFrame(1);
        rightFrame(2);
        for (int b : new int[] {0, 3, 4, 255}) {
            wrongFrame(b);
        }
        for (int second : new int[] {0, 1, 2}) {
            wrongFrame(1, second);
            wrongFrame(2, second);
        }
    }

    private static void frameOfPacket() {
        Check.says("or a byte 0 and a RIGHT packet");
        int[][] packets = {{1, 0, 4, 1}, {2, 0, 5, 1, 1}, {3, 0, 3}, {4, 0, 3}};
        for (int[] packet : packets) {
            rightFrame(Wire.frame(packet));
            wrongFrame(packet);
            for (int b : new int[] {1, 2, 3, 255}) {
                wrongFrame(Wire.cat(Wire.row(b), packet));
            }
        }
    }

    private static void allElseIsWrong() {
        Check.says("All else that comes as a frame is WRONG.");
        wrongFrame(0, 1, 0, 4, 1, 0);
        wrongFrame(0, 0, 1, 0, 4, 1);
        wrongFrame(new int[48]);
    }

    private static void wrongIsCountedAndNothingElse() {
        Check.says("Where a WRONG frame ... comes to, it is counted there, and nothing else happens.");
        Bench b = Bench.busy();
        b.x.forge(2, 1);
        int last = b.x.port(3, 11) - 1;
        int[][] frames = {{0, 2, last, 6, 1, 5}, {0, 1, 9, 5, 1}, {0, 3, 9, 4}, {0, 4, 9, 4, 0}, {1, 1}, {2, 2}};
        for (int i = 0; i < frames.length; i++) {
            b.idle("a WRONG frame at a host", 1, 1, frames[i]);
            Check.due("counted at a host", b.x.wrong(1), i + 1);
            b.idle("a WRONG frame at the switch", 0, 3, frames[i]);
            Check.due("counted at the switch", b.x.wrong(0), i + 1);
        }
        Check.due("not at a server", b.x.wrong(2), 0);
    }
}
