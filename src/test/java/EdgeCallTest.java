/** The edges of the calls themselves, promise by promise: wrong arguments, and that a call that is refused changes nothing. */
public final class EdgeCallTest {
    private static final int[] NO_CONNECTION = {Integer.MIN_VALUE, -2, -1, 4, 5, 256, Integer.MAX_VALUE};
    private static final int[] NO_SIZE = {Integer.MIN_VALUE, -8, -1, 0, 9, 16, 257, Integer.MAX_VALUE};

    public static void main(String[] args) {
        newObject();
        objectsAreApart();
        typeSizes();
        typeWrongSizes();
        typeUpTo420();
        connect();
        connectNotClosed();
        sendNowhere();
        sendEmptiesTheTape();
        sendAnEmptyTape();
        sendTellsTheState();
        cut();
        cutDispatches();
        waiting();
        readSizes();
        readWrong();
        readFewer();
        connectionWhat();
        halfOfGreetingOrFrame();
        heartbeatOfTuneOk();
        openChannels();
        channelWhat();
        channelStates();
        channelNotOpen();
        queueWhat();
        totals();
        totalOfDeaths();
        Kit.end();
    }

    private static void newObject() {
        Kit k = new Kit("newObject");
        for (int c = 0; c < 4; c++) {
            k.connected(c, 0, 0);
            k.due("send", k.hall.send(c), -1);
            k.due("cut", k.hall.cut(c), false);
            k.due("waiting", k.hall.waiting(c), 0);
            k.due("read", k.thrownByRead(c, 1), 1);
        }
        for (int what = 0; what <= 7; what++) {
            k.total(what, 0);
        }
        k.queue(0, 0, -1);
        k.exchange(0, 0, -1);
        k.crash(0, 0);
        k.tick(1, 1);
        k = new Kit("the first numbers");
        k.open(0);
        k.ask(0, "1 50.10 ' 0 {}", "1 50.11 'gen-1 0:4 0:4");
        k.ask(0, "1 60.20 ' ' 0", "1 60.21 'ctag-1");
    }

    private static void objectsAreApart() {
        Kit a = new Kit("objectsAreApart");
        a.open(0);
        a.say(0, "1 50.10 'q 16 {}");
        a.hall.type(1, 1);
        a.tick(3, 3);
        Kit b = new Kit("the other one");
        b.total(0, 0);
        b.total(2, 0);
        b.connected(0, 0, 0);
        a.total(2, 1);
    }

    /** The n lowest bytes of word, the highest first. */
    private static void typeSizes() {
        for (int n = 1; n <= 8; n++) {
            Kit k = new Kit("typeSizes " + n);
            k.open(0);
            // A BODY frame's bytes come back as they were typed.
            k.say(0, "1 50.10 'q 16 {}", "1 60.40 ' 'q 0", "1 H 60:2 " + n + ":4 0:2");
            k.hall.type(0x03000100000000L | n, 7);
            k.due("type", k.hall.type(0xF1E2D3C4B5A69788L, n), true);
            k.hall.type(0xFFFFFFFFFFFFFFCEL, 1);
            k.due("send", k.hall.send(0), 5);
            k.say(0, "1 60.70 'q 1");
            byte[] got = k.readAll(0);
            long word = 0;
            for (int i = got.length - 1 - n; i < got.length - 1; i++) {
                word = word << 8 | (got[i] & 255);
            }
            k.due("bytes", word, n == 8 ? 0xF1E2D3C4B5A69788L : 0xF1E2D3C4B5A69788L & ((1L << (8 * n)) - 1));
        }
    }

    private static void typeWrongSizes() {
        for (int n : NO_SIZE) {
            Kit k = new Kit("typeWrongSizes " + n);
            k.hall.connect(0);
            k.hall.type(0x52, 1);
            k.due("type", k.hall.type(-1, n), false);
            k.due("send", k.hall.send(0), 1);
            k.connected(0, 3, 1);
        }
    }

    /** Types n bytes of heartbeats without an end, from a place on: how many came in is seen by the last one, which is not whole. */
    private static boolean typeBeats(Kit k, int from, int n) {
        long word = 0;
        for (int i = from; i < from + n; i++) {
            word = word << 8 | (0x08000000000000CEL >>> (56 - 8 * (i % 8)) & 255);
        }
        return k.hall.type(word, n);
    }

    /** False, changing nothing, if it would have more than 420. */
    private static void typeUpTo420() {
        for (int n = 1; n <= 8; n++) {
            for (int over = -1; over <= 1; over++) {
                Kit k = new Kit("typeUpTo420 " + n + " " + over);
                k.bring(0, 5);
                int before = 420 + over - n;
                for (int at = 0; at < before; at += 8) {
                    k.due("type", typeBeats(k, at, Math.min(8, before - at)), true);
                }
                k.due("type to " + (420 + over), typeBeats(k, before, n), over <= 0);
                k.due("send", k.hall.send(0), 5);
                k.connected(0, 3, (over <= 0 ? before + n : before) % 8);
                k.hear(0);
            }
        }
        Kit k = new Kit("a tape that is full takes nothing more, not even one byte, and less where more does not fit");
        k.hall.connect(0);
        for (int i = 0; i < 52; i++) {
            k.hall.type(0, 8);
        }
        for (int n = 8; n > 4; n--) {
            k.due("416 and " + n, k.hall.type(0, n), false);
        }
        k.due("416 and 3", k.hall.type(0, 3), true);
        k.due("419 and 2", k.hall.type(0, 2), false);
        k.due("419 and 1", k.hall.type(0, 1), true);
        k.due("420 and 1", k.hall.type(0, 1), false);
        k.hall.send(3);
        k.due("empty again", k.hall.type(0, 8), true);
    }

    private static void connect() {
        Kit k = new Kit("connect");
        for (int c : NO_CONNECTION) {
            k.due("connect(" + c + ")", k.hall.connect(c), false);
        }
        for (int c = 0; c < 4; c++) {
            k.due("connect(" + c + ")", k.hall.connect(c), true);
            k.connected(c, 0, 1);
            for (int other = c + 1; other < 4; other++) {
                k.connected(other, 0, 0);
            }
        }
    }

    /** False if it is not CLOSED: in each other STATE, changing nothing. */
    private static void connectNotClosed() {
        for (int state = 1; state <= 6; state++) {
            Kit k = new Kit("connectNotClosed " + state);
            k.bring(0, state);
            k.sendBytes(0, new byte[] {1, 0});
            k.due("connect", k.hall.connect(0), false);
            k.connected(0, 0, state);
            k.connected(0, 3, 2);
            k.hall.cut(0);
            k.due("connect", k.hall.connect(0), true);
            k.connected(0, 0, 1);
            k.connected(0, 3, 0);
        }
    }

    private static void sendNowhere() {
        Kit k = new Kit("sendNowhere");
        k.hall.connect(0);
        for (int c : NO_CONNECTION) {
            k.hall.type(82, 1);
            k.due("send(" + c + ")", k.hall.send(c), -1);
        }
        k.due("send(1)", k.hall.send(1), -1);
        k.connected(0, 3, 0);
    }

    /** It is empty then in any case. */
    private static void sendEmptiesTheTape() {
        for (int c : new int[] {-1, 4, 1, 0}) {
            Kit k = new Kit("sendEmptiesTheTape " + c);
            k.hall.connect(0);
            k.hall.connect(2);
            k.hall.type(0x524C, 2);
            k.hall.send(c);
            k.due("send(2)", k.hall.send(2), 1);
            k.connected(2, 3, 0);
            k.connected(0, 3, c == 0 ? 2 : 0);
        }
        Kit k = new Kit("what comes behind a FRAME that makes it CLOSED is lost");
        k.bring(0, 2);
        k.sayDue(0, 0, "0 10.50", "0 10.11 '");
        k.hall.connect(0);
        k.due("send", k.hall.send(0), 1);
        k.connected(0, 3, 0);
    }

    private static void sendAnEmptyTape() {
        for (int state = 1; state <= 6; state++) {
            Kit k = new Kit("sendAnEmptyTape " + state);
            k.bring(0, state);
            k.due("send", k.hall.send(0), state);
            k.hear(0);
            k.connected(0, 3, 0);
        }
    }

    private static void sendTellsTheState() {
        Kit k = new Kit("sendTellsTheState");
        k.hall.connect(0);
        k.due("1", k.sendBytes(0, Kit.bytes("RLAY")), 1);
        k.due("2", k.sendBytes(0, Kit.bytes("\0\0\t\1")), 2);
        k.sayDue(0, 3, "0 10.11 '");
        k.sayDue(0, 4, "0 10.31 3:2 400:4 0:2");
        k.sayDue(0, 5, "0 10.40 '");
        k.sayDue(0, 6, "1 1.1");
        k.sayDue(0, 0, "0 10.51");
        k.due("closed already", k.say(0, "0 10.51"), -1);
        k = new Kit("all in one tape");
        k.hall.connect(0);
        k.hall.type(0x524C415900000901L, 8);
        k.sayDue(0, 5, "0 10.11 '", "0 10.31 3:2 400:4 0:2", "0 10.40 '", "1 20.10");
        k.channel(0, 1, 0, 1);
    }

    private static void cut() {
        Kit k = new Kit("cut");
        for (int c : NO_CONNECTION) {
            k.due("cut(" + c + ")", k.hall.cut(c), false);
        }
        for (int state = 1; state <= 6; state++) {
            k.bring(3, state);
            k.due("cut", k.hall.cut(3), true);
            k.connected(3, 0, 0);
            k.hear(3);
            k.due("cut again", k.hall.cut(3), false);
        }
    }

    private static void cutDispatches() {
        Kit k = new Kit("cutDispatches");
        k.open(0);
        k.open(1);
        k.say(0, "1 50.10 'q 16 {}", "1 60.20 'q 'a 8");
        k.publish(0, "", "q", "x");
        k.say(1, "1 60.20 'q 'b 8");
        k.hear(1);
        k.due("cut", k.hall.cut(0), true);
        k.hear(1, "1 60.60 'b 1:4 1 ' 'q", "1 H 60:2 1:4 0:2", "1 B x");
    }

    private static void waiting() {
        Kit k = new Kit("waiting");
        for (int c : NO_CONNECTION) {
            k.due("waiting(" + c + ")", k.hall.waiting(c), -1);
        }
        k.hall.connect(3);
        k.due("none", k.hall.waiting(3), 0);
        k.sendBytes(3, Kit.bytes(Kit.GREETING));
        k.due("START", k.hall.waiting(3), 14);
        k.due("another one", k.hall.waiting(2), 0);
        k.hall.read(3, 8);
        k.due("the rest", k.hall.waiting(3), 6);
        k.hall.cut(3);
        k.due("of a CLOSED one", k.hall.waiting(3), 6);
    }

    /** The next n bytes, the first one highest; they are read. */
    private static void readSizes() {
        long[] due = {0x01, 0x0100, 0x010000, 0x01000000, 0x0100000000L, 0x010000000000L, 0x01000000000006L, 0x0100000000000600L};
        for (int n = 1; n <= 8; n++) {
            Kit k = new Kit("readSizes " + n);
            k.hall.connect(0);
            k.sendBytes(0, Kit.bytes(Kit.GREETING));
            k.due("read", k.hall.read(0, n), due[n - 1]);
            k.due("waiting", k.hall.waiting(0), 14 - n);
        }
        Kit k = new Kit("a first byte above 127");
        k.open(0);
        k.say(0, "1 50.10 'q 16 {}");
        k.publish(0, "", "q", "\u00ff\u0080\u00fe\u0081\u00fd\u0082\u00fc\u0083");
        k.say(0, "1 60.70 'q 1");
        for (int i = 0; i < 6; i++) {
            k.hall.read(0, 7);
        }
        k.hall.read(0, 5);
        k.due("read", k.hall.read(0, 8), 0xFF80FE81FD82FC83L);
        k.due("the last", k.hall.read(0, 1), 206);
    }

    /** IndexOutOfBoundsException: another n, no such connection; it comes first, and nothing is read. */
    private static void readWrong() {
        Kit k = new Kit("readWrong");
        k.hall.connect(0);
        k.sendBytes(0, Kit.bytes(Kit.GREETING));
        for (int n : NO_SIZE) {
            k.due("read(0, " + n + ")", k.thrownByRead(0, n), 2);
            k.due("read(1, " + n + ")", k.thrownByRead(1, n), 2);
            k.due("read(9, " + n + ")", k.thrownByRead(9, n), 2);
        }
        for (int c : NO_CONNECTION) {
            k.due("read(" + c + ", 1)", k.thrownByRead(c, 1), 2);
        }
        k.due("waiting", k.hall.waiting(0), 14);
    }

    /** NoSuchElementException: there are fewer; those stay. */
    private static void readFewer() {
        Kit k = new Kit("readFewer");
        k.hall.connect(0);
        k.due("none", k.thrownByRead(0, 1), 1);
        k.sendBytes(0, Kit.bytes(Kit.GREETING));
        k.hall.read(0, 7);
        k.due("seven are there", k.thrownByRead(0, 8), 1);
        k.due("seven", k.thrownByRead(0, 7), 0);
        for (int n = 1; n <= 8; n++) {
            k.due("none", k.thrownByRead(0, n), 1);
        }
        k.due("of one that was never connected", k.thrownByRead(3, 1), 1);
    }

    private static void connectionWhat() {
        Kit k = new Kit("connectionWhat");
        k.open(0);
        for (int c : NO_CONNECTION) {
            for (int what = -1; what <= 4; what++) {
                k.connected(c, what, -1);
            }
        }
        for (int what : new int[] {Integer.MIN_VALUE, -1, 4, 100, Integer.MAX_VALUE}) {
            k.connected(0, what, -1);
            k.connected(1, what, -1);
        }
    }

    /** Bytes that have come of a GREETING or FRAME that is not whole. */
    private static void halfOfGreetingOrFrame() {
        byte[] frame = Kit.frame("0 8");
        for (int state = 1; state <= 6; state++) {
            Kit k = new Kit("halfOfGreetingOrFrame " + state);
            k.bring(0, state);
            for (int i = 0; i < 7; i++) {
                k.connected(0, 3, i);
                k.sendBytes(0, new byte[] {frame[i]});
            }
            k.connected(0, 3, 7);
            k.connected(0, 0, state);
            k.sendBytes(0, new byte[] {frame[7]});
            k.connected(0, 3, 0);
            k.connected(0, 0, state == 1 ? 0 : state);
        }
        Kit k = new Kit("the longest one");
        k.bring(0, 5);
        byte[] longest = Kit.raw(3, 1, new byte[400]);
        k.sendBytes(0, java.util.Arrays.copyOf(longest, 407));
        k.connected(0, 3, 407);
        k.sendBytes(0, new byte[] {(byte) 206});
        k.connected(0, 3, 0);
        k.connected(0, 0, 6);
    }

    /** The HEARTBEAT of its latest TUNE-OK, 0 from connect() on. */
    private static void heartbeatOfTuneOk() {
        Kit k = new Kit("heartbeatOfTuneOk");
        k.connected(0, 1, 0);
        k.bring(0, 3);
        k.connected(0, 1, 0);
        k.sayDue(0, 4, "0 10.31 3:2 400:4 77:2");
        k.connected(0, 1, 77);
        k.connected(1, 1, 0);
        k.hall.cut(0);
        k.connected(0, 1, 77);
        k.crash(0, 0);
        k.connected(0, 1, 77);
        k.hall.connect(0);
        k.connected(0, 1, 0);
    }

    /** Open channels, without CLOSING ones. */
    private static void openChannels() {
        Kit k = new Kit("openChannels");
        k.open(0, 0);
        for (int channel = 1; channel <= 3; channel++) {
            k.connected(0, 2, channel - 1);
            k.openChannel(0, channel);
        }
        k.connected(0, 2, 3);
        k.say(0, "2 60.80 1:4 0");
        k.connected(0, 2, 2);
        k.say(0, "2 20.41");
        k.connected(0, 2, 2);
        k.say(0, "2 20.10");
        k.connected(0, 2, 3);
        k.say(0, "3 20.40 0:2 ' 0:2 0:2");
        k.connected(0, 2, 2);
        k.say(0, "9 8");
        k.connected(0, 2, 0);
    }

    private static void channelWhat() {
        Kit k = new Kit("channelWhat");
        k.open(0);
        for (int what = -1; what <= 7; what++) {
            for (int channel : new int[] {Integer.MIN_VALUE, -1, 0, 4, 257, Integer.MAX_VALUE}) {
                k.channel(0, channel, what, -1);
            }
            for (int c : NO_CONNECTION) {
                k.channel(c, 1, what, -1);
            }
        }
        for (int what : new int[] {Integer.MIN_VALUE, -1, 7, 100, Integer.MAX_VALUE}) {
            k.channel(0, 1, what, -1);
            k.channel(0, 2, what, -1);
            k.channel(3, 3, what, -1);
        }
    }

    private static void channelStates() {
        Kit k = new Kit("channelStates");
        k.open(0);
        k.openChannel(0, 3);
        k.channel(0, 1, 0, 1);
        k.channel(0, 2, 0, 0);
        k.channel(0, 3, 0, 1);
        k.say(0, "3 60.80 1:4 0");
        k.channel(0, 3, 0, 2);
        k.say(0, "3 20.41");
        k.channel(0, 3, 0, 0);
        k.say(0, "3 20.10");
        k.channel(0, 3, 0, 1);
        k.say(0, "3 20.40 0:2 ' 0:2 0:2");
        k.channel(0, 3, 0, 0);
        k.say(0, "3 20.10", "3 60.80 1:4 0");
        k.hall.cut(0);
        k.channel(0, 3, 0, 0);
        k.channel(0, 1, 0, 0);
    }

    /** Of one that is not open, what 1 to 6: 0. */
    private static void channelNotOpen() {
        String[][] ends = {{"1 60.80 99:4 0"}, {"1 20.40 0:2 ' 0:2 0:2"}, {"9 8"}, {"0 10.50 0:2 ' 0:2 0:2"}};
        for (String[] end : ends) {
            for (String mode : new String[] {"1 90.10", "1 85.10 1"}) {
                Kit k = new Kit("channelNotOpen " + end[0] + " " + mode);
                k.open(0);
                k.say(0, "1 50.10 'q 18 {}", "1 60.20 'q 'c 8", mode);
                k.publish(0, "", "q", "2:2 1", "x");
                boolean transactions = mode.startsWith("1 90");
                k.say(0, transactions ? "1 90.20" : "0 8");
                k.publish(0, "", "q", "x");
                k.channel(0, 1, 1, transactions ? 1 : 2);
                k.channel(0, 1, 2, transactions ? 1 : 0);
                k.channel(0, 1, 3, transactions ? 1 : 2);
                k.channel(0, 1, 4, transactions ? 1 : 2);
                k.channel(0, 1, 5, transactions ? 0 : 2);
                k.channel(0, 1, 6, 1);
                k.say(0, end);
                for (int what = 1; what <= 6; what++) {
                    k.channel(0, 1, what, 0);
                }
            }
        }
    }

    private static void queueWhat() {
        Kit k = new Kit("queueWhat");
        k.open(0);
        k.say(0, "1 40.10 'e 'direct 16 {}", "1 50.10 'q 26 {}", "1 50.20 'q 'e 'a 1 {}", "1 50.20 'q 'e 'b 1 {}", "1 60.10 1:2 0", "1 60.20 'q 'c 8", "1 60.20 'q 'd 8");
        for (int i = 0; i < 5; i++) {
            k.publish(0, "", "q", "x");
        }
        k.queue(0, 0, 3);
        k.queue(0, 1, 2);
        k.queue(0, 2, 2);
        k.queue(0, 3, 10);
        k.queue(0, 4, 1);
        k.queue(0, 5, 2);
        k.exchange(0, 2, 2);
    }

    private static void totals() {
        Kit k = new Kit("totals");
        for (int what : new int[] {Integer.MIN_VALUE, -1, 8, 9, 100, Integer.MAX_VALUE}) {
            k.total(what, -1);
        }
        k.open(0);
        k.open(1);
        k.say(0, "1 40.10 'a 'direct 16 {}", "1 40.10 'b 'direct 18 {}", "1 50.10 'q 16 {}", "1 50.10 'r 18 {}", "1 50.10 's 20 {}");
        k.say(0, "1 50.20 'q 'a '1 1 {}", "1 50.20 'q 'a '2 1 {}", "1 50.20 'r 'b ' 1 {}", "1 50.20 's 'b ' 1 {}", "1 60.20 'q 'x 8");
        k.say(1, "1 60.20 'q 'x 8");
        k.publish(0, "", "q", "u");
        k.publish(0, "", "r", "v");
        k.publish(0, "", "s", "w");
        k.tick(7, 7);
        k.say(0, "1 60.70 'r 0", "1 50.10 't 18 {}");
        k.total(0, 7);
        k.total(1, 3);
        k.total(2, 4);
        k.total(3, 2);
        k.total(4, 4);
        k.total(5, 2);
        k.total(6, 1);
        k.total(7, 0);
    }

    /** How often a message was DEAD, whatever came of it. */
    private static void totalOfDeaths() {
        Kit k = new Kit("totalOfDeaths");
        k.open(0);
        k.say(0, "1 50.10 'q 16 {max=I1}", "1 50.10 'r 16 {ttl=I1,dlx=Snone}", "1 50.10 's 16 {dlx=S,dlk=Sq}", "1 50.10 't 16 {}");
        k.publish(0, "", "q", "x");
        k.publish(0, "", "q", "x");
        k.total(7, 1);
        k.publish(0, "", "r", "x");
        k.tick(1, 1);
        k.total(7, 2);
        k.publish(0, "", "s", "x");
        k.say(0, "1 60.70 's 0", "1 60.90 1:4 0");
        // It was DEAD itself, and pushed out another one where it was BURIED.
        k.total(7, 4);
        k.publish(0, "", "t", "x");
        k.say(0, "1 60.70 't 0", "1 60.80 2:4 0");
        k.publish(0, "", "t", "x");
        k.say(0, "1 60.70 't 1");
        k.publish(0, "", "t", "x");
        k.say(0, "1 50.30 't 1");
        k.publish(0, "", "t", "x");
        k.say(0, "1 50.40 't 4");
        k.total(7, 4);
    }
}
