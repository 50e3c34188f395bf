/** Promises 1 to 7 and 10: the tape, connections, their states and frames. */
public final class ConnectionTest {
    public static void main(String[] args) {
        newObject();
        tape();
        connecting();
        greeting();
        handshake();
        handshakeRefused();
        sending();
        reading();
        noFrames();
        frameErrors();
        heartbeatFrames();
        methodErrors();
        contentErrors();
        closing();
        closedByClient();
        cutting();
        heartbeats();
        outIsFull();
        Kit.end();
    }

    private static void newObject() {
        Kit k = new Kit("newObject");
        k.due("NONE", RelayHall.NONE, -1);
        for (int c = 0; c < 4; c++) {
            for (int what = 0; what <= 3; what++) {
                k.connected(c, what, 0);
            }
            k.due("waiting", k.hall.waiting(c), 0);
            for (int channel = 1; channel <= 3; channel++) {
                for (int what = 0; what <= 6; what++) {
                    k.channel(c, channel, what, 0);
                }
            }
        }
        for (int what = 0; what <= 7; what++) {
            k.total(what, 0);
        }
        k.queue(0, 0, -1);
        k.exchange(0, 0, -1);
    }

    private static void tape() {
        Kit k = new Kit("tape");
        k.due("n 0", k.hall.type(1, 0), false);
        k.due("n -1", k.hall.type(1, -1), false);
        k.due("n 9", k.hall.type(1, 9), false);
        k.due("n huge", k.hall.type(1, Integer.MAX_VALUE), false);
        k.hall.connect(0);
        for (int i = 0; i < 52; i++) {
            k.due("type 8", k.hall.type(0x524C415900000901L, 8), true);
        }
        k.due("beyond 420", k.hall.type(0, 5), false);
        k.due("just 420", k.hall.type(0, 4), true);
        k.due("421", k.hall.type(0, 1), false);
        k.due("send", k.hall.send(0), 0);
        k.hear(0, "0 10.10 0 9");
        k.hall.connect(0);
        k.hall.type(0xFF52L, 1);
        k.hall.type(-1L << 24 | 0x4C4159, 3);
        k.due("half a greeting", k.hall.send(0), 1);
        k.connected(0, 3, 4);
        k.hall.type(0x0901L, 4);
        k.due("the rest", k.hall.send(0), 2);
    }

    private static void connecting() {
        Kit k = new Kit("connecting");
        k.due("connect(-1)", k.hall.connect(-1), false);
        k.due("connect(4)", k.hall.connect(4), false);
        k.due("connect(3)", k.hall.connect(3), true);
        k.due("connect(3) again", k.hall.connect(3), false);
        k.connected(3, 0, 1);
        for (int what = 0; what <= 3; what++) {
            k.connected(4, what, -1);
            k.connected(-1, what, -1);
        }
        k.connected(3, 4, -1);
        k.connected(3, -1, -1);
        k.due("waiting(4)", k.hall.waiting(4), -1);
        k.due("waiting(-1)", k.hall.waiting(-1), -1);
    }

    private static void greeting() {
        Kit k = new Kit("greeting");
        k.hall.connect(0);
        k.due("seven bytes", k.sendBytes(0, Kit.bytes("RLAY\0\0\t")), 1);
        k.connected(0, 3, 7);
        k.due("nothing yet", k.hall.waiting(0), 0);
        k.due("the eighth", k.sendBytes(0, new byte[] {1, 1}), 2);
        k.connected(0, 3, 1);
        k.hear(0, "0 10.10 0 9");
        k.hall.connect(1);
        k.due("a wrong byte waits for eight", k.sendBytes(1, Kit.bytes("X")), 1);
        k.due("closed", k.sendBytes(1, Kit.bytes("LAY\0\0\t\1 and more")), 0);
        k.due("the greeting is told", Kit.show(k.readAll(1)).equals("82 76 65 89 0 0 9 1 "), true);
        k.connected(1, 3, 0);
    }

    private static void handshake() {
        Kit k = new Kit("handshake");
        k.hall.connect(2);
        k.due("greeting", k.sendBytes(2, Kit.bytes(Kit.GREETING)), 2);
        k.hear(2, "0 10.10 0 9");
        k.sayDue(2, 2, "0 8");
        k.sayDue(2, 3, "0 10.11 'me");
        k.hear(2, "0 10.30 3:2 400:4 30:2");
        k.sayDue(2, 3, "0 8");
        k.connected(2, 1, 0);
        k.sayDue(2, 4, "0 10.31 0:2 0:4 65535:2");
        k.connected(2, 1, 65535);
        k.hear(2);
        k.sayDue(2, 4, "0 8");
        k.sayDue(2, 5, "0 10.40 '");
        k.hear(2, "0 10.41");
        k.connected(2, 2, 0);
        k.hall.cut(2);
        k.connected(2, 1, 65535);
        k.hall.connect(2);
        k.connected(2, 1, 0);
    }

    private static void handshakeRefused() {
        String[][] wrong = {
            {"0 10.31 3:2 400:4 0:2"}, {"0 10.11"}, {"0 10.11 'me 1"}, {"1 10.11 'me"}, {"0 10.11 '" + Kit.repeat("x", 41)},
            {"0 B x"}, {"1 8"}, {"0 8 0"}, {"0 10.50 0:2 ' 0:2 0:2"},
            {"0 10.11 '", "0 10.31 4:2 400:4 0:2"}, {"0 10.11 '", "0 10.31 3:2 401:4 0:2"}, {"0 10.11 '", "0 10.31 3:2 400:4"},
            {"0 10.11 '", "0 10.40 '"}, {"0 10.11 '", "0 10.31 3:2 400:4 0:2", "0 10.40"}, {"0 10.11 '", "0 10.11 '"},
            {"0 10.11 '", "0 10.31 3:2 400:4 0:2", "1 20.10"}, {"0 10.11 '", "0 10.31 3:2 4294967295:4 0:2"},
        };
        for (String[] frames : wrong) {
            Kit k = new Kit("handshakeRefused");
            k.hall.connect(0);
            k.sendBytes(0, Kit.bytes(Kit.GREETING));
            for (int i = 0; i < frames.length - 1; i++) {
                k.say(0, frames[i]);
            }
            k.readAll(0);
            k.sayDue(0, 0, frames[frames.length - 1]);
            k.hear(0);
            k.connected(0, 1, frames.length == 3 ? 0 : k.hall.connection(0, 1));
        }
        Kit k = new Kit("no frame in a handshake");
        k.hall.connect(0);
        k.sendBytes(0, Kit.bytes(Kit.GREETING));
        k.readAll(0);
        k.due("six bytes", k.sendBytes(0, new byte[] {9, 0, 0, 0, 0, 0}), 2);
        k.due("a type that is none", k.sendBytes(0, new byte[] {0}), 0);
        k.hear(0);
        k.hall.connect(0);
        k.sendBytes(0, Kit.bytes(Kit.GREETING));
        byte[] frame = Kit.frame("0 10.11 'me");
        frame[frame.length - 1] = 7;
        k.due("a wrong last byte", k.sendBytes(0, frame), 0);
        k.hall.connect(0);
        k.sendBytes(0, Kit.bytes(Kit.GREETING));
        k.due("a size above 400", k.sendBytes(0, new byte[] {1, 0, 0, 0, 0, 1, (byte) 145}), 0);
    }

    private static void sending() {
        Kit k = new Kit("sending");
        k.hall.type(7, 3);
        k.due("no such connection", k.hall.send(4), -1);
        k.due("no such connection", k.hall.send(-1), -1);
        k.hall.connect(0);
        k.due("the tape is empty then", k.hall.send(0), 1);
        k.connected(0, 3, 0);
        k.hall.type(7, 3);
        k.due("closed already", k.hall.send(1), -1);
        k.hall.send(0);
        k.connected(0, 3, 0);
        k.hall.cut(0);
        k.open(0);
        byte[] frame = Kit.frame("1 20.20 0");
        for (int i = 0; i < frame.length; i++) {
            k.connected(0, 3, i);
            k.due("byte by byte", k.sendBytes(0, new byte[] {frame[i]}), 5);
        }
        k.connected(0, 3, 0);
        k.hear(0, "1 20.21 0");
        k.sayDue(0, 0, "0 10.50 0:2 ' 0:2 0:2", "1 20.20 0");
        k.hear(0, "0 10.51");
        k.connected(0, 3, 0);
    }

    private static void reading() {
        Kit k = new Kit("reading");
        k.hall.connect(0);
        k.sendBytes(0, Kit.bytes(Kit.GREETING));
        k.due("waiting", k.hall.waiting(0), 14);
        k.due("n 0", k.thrownByRead(0, 0), 2);
        k.due("n 9", k.thrownByRead(0, 9), 2);
        k.due("n -1", k.thrownByRead(0, -1), 2);
        k.due("connection 4", k.thrownByRead(4, 1), 2);
        k.due("connection -1", k.thrownByRead(-1, 9), 2);
        k.due("read 1", k.hall.read(0, 1), 1);
        k.due("read 8", k.hall.read(0, 8), 0x00000000000600_0AL);
        k.due("waiting", k.hall.waiting(0), 5);
        k.due("fewer", k.thrownByRead(0, 6), 1);
        k.due("waiting still", k.hall.waiting(0), 5);
        k.due("read 5", k.hall.read(0, 5), 0x000A0009CEL);
        k.due("none", k.thrownByRead(0, 1), 1);
        k.sayDue(0, 3, "0 10.11 '");
        k.hall.cut(0);
        k.due("it stays when closed", k.hall.waiting(0), 20);
        k.due("and is read", k.hall.read(0, 2), 256);
        k.hall.connect(0);
        k.due("gone when connected again", k.hall.waiting(0), 0);
    }

    private static void noFrames() {
        byte[][] none = {
            {9, 0, 1, 0, 0, 0, 0}, {0, 0, 9, 0, 0, 0, 4}, {4, 0, 0, 0, 0, 0, 0}, {1, 0, 1, 0, 0, 1, (byte) 145},
            {8, 0, 0, (byte) 255, 0, 0, 0}, {8, 0, 0, 0, 0, 0, 0, (byte) 205}, {1, 0, 9, 0, 0, 0, 4, 0, 60, 0, 40, 0},
        };
        for (byte[] bytes : none) {
            Kit k = new Kit("noFrames");
            k.open(0);
            byte[] first = new byte[bytes.length - 1];
            System.arraycopy(bytes, 0, first, 0, first.length);
            k.due("not yet", k.sendBytes(0, first), 5);
            k.connected(0, 3, first.length);
            k.due("now", k.sendBytes(0, new byte[] {bytes[first.length]}), 6);
            k.hear(0, "0 10.50 501:2 ' 0:2 0:2");
            k.connected(0, 3, 0);
            k.sayDue(0, 6, "0 10.51");
            k.connected(0, 3, 0);
            k.tick(19, 19);
            k.connected(0, 0, 6);
            k.tick(1, 20);
            k.connected(0, 0, 0);
            k.open(0);
        }
        Kit k = new Kit("a frame of 400 bytes");
        k.open(0);
        byte[] big = Kit.raw(1, 1, new byte[400]);
        k.due("send", k.sendBytes(0, big), 6);
        k.hear(0, "0 10.50 540:2 ' 0:2 0:2");
        k.due("no frame while closing", k.sendBytes(0, new byte[] {9, 0, 0, 0, 0, 0, 0}), 6);
        k.hear(0);
        k.sayDue(0, 6, "0 10.51");
    }

    private static void frameErrors() {
        Kit k = new Kit("frameErrors");
        k.open(0);
        k.hard(0, 504, 60, 80, "4 60.80 1");
        k.sayDue(0, 6, "1 20.10", "5 60.80");
        k.hear(0);
        k.sayDue(0, 0, "0 10.51");
        k.open(0);
        k.due("three bytes", k.sendBytes(0, Kit.raw(1, 4, new byte[3])), 6);
        k.hear(0, "0 10.50 504:2 ' 0:2 0:2");
        k.sayDue(0, 0, "0 10.50 1:2");
        k.hear(0, "0 10.51");
        k.open(0);
        k.hard(0, 504, 0, 0, "7 8");
        k.connected(0, 2, 0);
        k.channel(0, 1, 0, 0);
    }

    private static void heartbeatFrames() {
        Kit k = new Kit("heartbeatFrames");
        k.open(0);
        k.ask(0, "0 8");
        k.hard(0, 501, 0, 0, "1 8");
        k.sayDue(0, 0, "0 10.51");
        k.open(0);
        k.sayDue(0, 0, "0 8 1", "0 10.51");
        k.hear(0, "0 10.50 501:2 ' 0:2 0:2");
    }

    private static void methodErrors() {
        Object[][] wrong = {
            {503, 60, 80, "0 60.80 1:4 0"}, {503, 10, 40, "1 10.40 '"}, {504, 20, 20, "2 20.20 1"}, {504, 20, 10, "1 20.10"},
            {540, 10, 10, "0 10.10 0 9"}, {503, 10, 51, "0 10.51"}, {503, 10, 11, "0 10.11 7"}, {503, 10, 31, "0 10.31"},
            {503, 10, 40, "0 10.40"}, {502, 10, 50, "0 10.50 0:2 ' 0:2"}, {502, 20, 10, "2 20.10 0"}, {503, 20, 41, "1 20.41 1"},
            {540, 20, 21, "1 20.21 1"}, {540, 30, 10, "1 30.10"}, {540, 60, 60, "1 60.60"}, {502, 20, 20, "1 20.20"},
            {502, 20, 20, "1 20.20 1 1"}, {502, 20, 40, "1 20.40"}, {502, 50, 10, "1 50.10 'q 0"},
            {502, 50, 10, "1 50.10 'q 0 {} 0"}, {502, 50, 10, "1 50.10 '" + Kit.repeat("q", 41) + " 0 {}"},
            {502, 50, 10, "1 50.10 'q 0 {a=Q1}"}, {502, 50, 10, "1 50.10 'q 0 {a=S" + Kit.repeat("s", 41) + "}"},
            {502, 50, 10, "1 50.10 'q 0 5:4"}, {502, 50, 10, "1 50.10 'q 0 3:4 '"}, {502, 50, 10, "1 50.10 'q 0 {a=t1,a=" + "I1} 1"},
            {502, 50, 10, "1 50.10 'q 0 {" + Kit.repeat(Kit.repeat("n", 13) + "=t1,", 9) + Kit.repeat("n", 11) + "=I1}"},
            {502, 50, 10, "1 50.10 'q 0 3:4 'ab"}, {502, 50, 10, "1 50.10 'q 0 5:4 'a 83 0:2"}, {502, 50, 10, "1 50.10 'q 0 {" + Kit.repeat("n", 41) + "=t1}"},
            {502, 50, 10, "1 50.10 'q 0 7:4 'a 83 4294967295:4"}, {502, 50, 10, "1 50.10 'q 0 4:4 'a 73 0"},
            {502, 60, 80, "1 60.80 1:4"}, {540, 60, 110, "1 60.110 0"}, {502, 60, 110, "1 60.110"}, {540, 60, 0, "1 60.0"},
            {540, 65535, 65535, "3 65535.65535"}, {503, 65535, 10, "0 65535.10"},
        };
        for (Object[] row : wrong) {
            Kit k = new Kit("methodErrors");
            k.open(0);
            k.openChannel(0, 3);
            k.hard(0, (Integer) row[0], (Integer) row[1], (Integer) row[2], (String) row[3]);
        }
        Kit k = new Kit("arguments behind wrong ones");
        k.open(0);
        k.hard(0, 502, 20, 20, "1 20.20");
        k.sayDue(0, 0, "0 10.51");
        k.open(0);
        k.ask(0, "1 20.20 1", "1 20.21 1");
        k = new Kit("less than four bytes");
        k.open(0);
        k.due("send", k.sendBytes(0, Kit.raw(1, 2, new byte[] {0, 10, 0})), 6);
        k.hear(0, "0 10.50 502:2 ' 0:2 0:2");
        k = new Kit("a table of 160 bytes");
        k.open(0);
        k.ask(0, "1 50.10 'q 0 {" + Kit.repeat(Kit.repeat("n", 13) + "=t1,", 9) + Kit.repeat("n", 10) + "=I1}", "1 50.11 'q 0:4 0:4");
        k.ask(0, "1 50.10 'r 0 {" + Kit.repeat("n", 40) + "=t1}", "1 50.11 'r 0:4 0:4");
        k.ask(0, "1 50.10 '" + Kit.repeat("q", 40) + " 0 {a=S" + Kit.repeat("s", 40) + "}", "1 50.11 '" + Kit.repeat("q", 40) + " 0:4 0:4");
    }

    private static void contentErrors() {
        Object[][] wrong = {
            {504, "0 H 60:2 0:4 0:2"}, {504, "2 B x"}, {505, "1 H 60:2 0:4 0:2"}, {505, "1 B x"},
        };
        for (Object[] row : wrong) {
            Kit k = new Kit("contentErrors");
            k.open(0);
            k.hard(0, (Integer) row[0], 0, 0, (String) row[1]);
        }
        Object[][] due = {
            {505, 0, 0, "1 B x"}, {505, 60, 40, "1 60.40 ' 'q 0"}, {505, 20, 41, "1 20.41"}, {505, 99, 1, "1 99.1"}, {504, 20, 10, "1 20.10"},
            {502, 0, 0, "1 H 61:2 0:4 0:2"}, {502, 0, 0, "1 H 60:2 0:4 16:2"}, {502, 0, 0, "1 H 60:2 0:4 0:2 1"},
            {502, 0, 0, "1 H 60:2 0:4 1:2"}, {502, 0, 0, "1 H 60:2 0:4 8:2 {x=Q1}"}, {502, 0, 0, "1 H 60:2 201:4 0:2 0"},
        };
        for (Object[] row : due) {
            Kit k = new Kit("contentErrors where a content is due");
            k.open(0);
            k.ask(0, "1 60.40 ' 'q 0");
            k.hard(0, (Integer) row[0], (Integer) row[1], (Integer) row[2], (String) row[3]);
        }
        Kit k = new Kit("bodies");
        k.open(0);
        k.say(0, "1 50.10 'q 16 {}");
        k.soft(0, 311, 60, 40, "1 60.40 ' 'q 0", "1 H 60:2 201:4 0:2", "1 B x", "1 60.80");
        k.ask(0, "1 60.40 ' 'q 0");
        k.ask(0, "1 H 60:2 3:4 0:2");
        k.ask(0, "1 B a");
        k.ask(0, "1 B");
        k.total(1, 0);
        k.ask(0, "1 B bc");
        k.total(1, 1);
        k.ask(0, "1 60.40 ' 'q 0");
        k.ask(0, "1 H 60:2 0:4 0:2");
        k.total(1, 2);
        k.ask(0, "1 60.70 'q 1", "1 60.71 1:4 0 ' 'q 1:4", "1 H 60:2 3:4 0:2", "1 B abc");
        k.ask(0, "1 60.70 'q 1", "1 60.71 2:4 0 ' 'q 0:4", "1 H 60:2 0:4 0:2");
        k.ask(0, "1 60.40 ' 'q 0");
        k.ask(0, "1 H 60:2 2:4 0:2");
        k.sayDue(0, 6, "1 B abc");
        k.hear(0, "0 10.50 501:2 ' 0:2 0:2");
        k.sayDue(0, 0, "0 10.51");
        k.open(0);
        String body = Kit.repeat("y", 200);
        k.publish(0, "", "q", body);
        k.ask(0, "1 60.70 'q 1", "1 60.71 1:4 0 ' 'q 0:4", "1 H 60:2 200:4 0:2", "1 B " + body);
    }

    private static void closing() {
        Kit k = new Kit("closing");
        k.open(0);
        k.openChannel(0, 2);
        k.connected(0, 2, 2);
        k.hard(0, 540, 40, 11, "1 40.11");
        k.connected(0, 2, 0);
        k.channel(0, 2, 0, 0);
        k.sayDue(0, 6, "1 10.51", "0 8 0", "0 20.10", "0 B x");
        k.hear(0);
        k.tick(19, 19);
        k.connected(0, 0, 6);
        k.sayDue(0, 0, "0 10.50");
        k.hear(0, "0 10.51");
        k.open(0);
        k.tick(5, 24);
        k.hard(0, 540, 40, 11, "1 40.11");
        k.tick(19, 43);
        k.connected(0, 0, 6);
        k.tick(1, 44);
        k.connected(0, 0, 0);
    }

    private static void closedByClient() {
        Kit k = new Kit("closedByClient");
        k.open(0);
        k.say(0, "1 50.10 'mine 20 {}", "1 50.10 'ours 16 {}");
        k.total(2, 2);
        k.sayDue(0, 0, "0 10.50 200:2 'bye 0:2 0:2");
        k.hear(0, "0 10.51");
        k.total(2, 1);
        k.ready("ours", 0);
    }

    private static void cutting() {
        Kit k = new Kit("cutting");
        k.due("cut(4)", k.hall.cut(4), false);
        k.due("cut(-1)", k.hall.cut(-1), false);
        k.due("cut(0)", k.hall.cut(0), false);
        k.open(0);
        k.open(1);
        k.say(0, "1 50.10 'q 16 {}", "1 60.20 'q 'a 8", "1 50.10 'own 20 {}");
        k.publish(0, "", "q", "x");
        k.readAll(0);
        k.say(1, "1 60.20 'q 'b 8");
        k.sendBytes(0, new byte[] {1, 0});
        k.connected(0, 3, 2);
        k.due("cut(0)", k.hall.cut(0), true);
        k.due("cut(0) again", k.hall.cut(0), false);
        k.connected(0, 0, 0);
        k.connected(0, 3, 0);
        k.total(2, 1);
        k.total(5, 1);
        k.hear(1, "1 60.60 'b 1:4 1 ' 'q", "1 H 60:2 1:4 0:2", "1 B x");
        k.openChannel(1, 3);
        k.say(1, "1 60.80 1:4 0", "3 60.20 'q 'c 8");
        k.publish(1, "", "q", "y");
        k.publish(1, "", "q", "z");
        k.queue(0, 1, 2);
        k.hall.cut(1);
        k.ready("q", 2);
        k.total(5, 0);
    }

    private static void heartbeats() {
        Kit k = new Kit("heartbeats");
        k.open(0, 3);
        k.tick(2, 2);
        k.hear(0);
        k.tick(1, 3);
        k.hear(0, "0 8");
        k.tick(2, 5);
        k.hear(0);
        k.connected(0, 0, 5);
        k.tick(1, 6);
        k.connected(0, 0, 0);
        k.hear(0);
        k.open(0, 3);
        k.tick(2, 8);
        k.ask(0, "1 20.10", "1 20.11");
        k.tick(2, 10);
        k.hear(0);
        k.tick(1, 11);
        k.hear(0, "0 8");
        k.sendBytes(0, new byte[] {8});
        k.tick(2, 13);
        k.due("an empty tape is no byte", k.hall.send(0), 5);
        k.tick(3, 16);
        k.hear(0, "0 8");
        k.tick(1, 17);
        k.connected(0, 0, 0);
        k.open(1, 0);
        k.tick(100, 117);
        k.connected(1, 0, 5);
        k.hear(1);
    }

    private static void outIsFull() {
        Kit k = new Kit("outIsFull");
        k.open(0);
        k.stuff(0, 12);
        // Its answer has 13 bytes.
        k.sayDue(0, 0, "1 20.20 1", "1 90.10");
        k.due("nothing was sent", k.hall.waiting(0), 4988);
        k.open(0);
        k.ask(0, "1 20.20 1", "1 20.21 1");
        k = new Kit("just full");
        k.open(0);
        k.stuff(0, 13);
        k.sayDue(0, 5, "1 20.20 1");
        k.due("just full", k.hall.waiting(0), 5000);
        k.due("an error does not fit", k.say(0, "1 99.9"), 0);
        k.due("waiting", k.hall.waiting(0), 5000);
        k = new Kit("room by reading");
        k.open(0);
        k.stuff(0, 5);
        k.due("a frame's first byte", k.hall.read(0, 8) >>> 56, 1);
        k.sayDue(0, 5, "1 20.20 1");
        k.due("just full", k.hall.waiting(0), 5000);
    }
}
