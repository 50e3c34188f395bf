/** The edges that the terms CONNECTIONS, OUT and HEARTBEAT name: each state, each frame in it, each limit. */
public final class EdgeConnectionTest {
    public static void main(String[] args) {
        greetingBytes();
        greetingLengths();
        onlyTheFrameThatIsDue();
        noFrameInHandshake();
        tuneLimits();
        tuneIsNotLookedAtFurther();
        passedOverWhileClosing();
        endsOfClosing();
        noFrameWhileClosing();
        deafBehindNoFrame();
        twentyTicks();
        halfFrameIsGone();
        waitingStaysTillConnected();
        channelsGoneThenExclusiveQueues();
        channelsOneToThree();
        contentOfPublishIsGone();
        closeHardFits();
        closeSoftFits();
        answersFit();
        whatWaitedStays();
        deliveryFits();
        gotFits();
        returnFits();
        cancelFits();
        confirmFits();
        confirmAtTickFits();
        heartbeatFits();
        farewellFits();
        heartbeatOfOne();
        heartbeatOfTwo();
        heartbeatOfNone();
        heartbeatOnlyWhenOpen();
        sentPutsOffHeartbeat();
        bytesPutOffTheEnd();
        whatIsBehindClosing();
        Kit.end();
    }

    /** Each of the eight bytes counts. */
    private static void greetingBytes() {
        for (int i = 0; i < 8; i++) {
            for (int by : new int[] {1, -1, 128}) {
                Kit k = new Kit("greetingBytes " + i);
                byte[] bytes = Kit.bytes(Kit.GREETING);
                bytes[i] += by;
                k.hall.connect(0);
                k.due("send", k.sendBytes(0, bytes), 0);
                k.due("told", Kit.show(k.readAll(0)).equals("82 76 65 89 0 0 9 1 "), true);
                k.bring(0, 2);
            }
        }
    }

    private static void greetingLengths() {
        for (int length = 1; length <= 8; length++) {
            Kit k = new Kit("greetingLengths " + length);
            k.hall.connect(0);
            k.due("send", k.sendBytes(0, Kit.bytes(Kit.GREETING.substring(0, length))), length == 8 ? 2 : 1);
            k.connected(0, 3, length % 8);
            k.due("waiting", k.hall.waiting(0), length == 8 ? 14 : 0);
            k = new Kit("wrong greetingLengths " + length);
            k.hall.connect(0);
            k.due("send", k.sendBytes(0, Kit.bytes("XLAY\0\0\t\1".substring(0, length))), length == 8 ? 0 : 1);
            k.connected(0, 3, length % 8);
            k.due("waiting", k.hall.waiting(0), length == 8 ? 8 : 0);
        }
        Kit k = new Kit("what comes behind a wrong greeting is lost");
        k.hall.connect(0);
        k.due("send", k.sendBytes(0, Kit.bytes("XLAY\0\0\t\1" + Kit.GREETING)), 0);
        k.due("waiting", k.hall.waiting(0), 8);
        k = new Kit("what comes behind a right one is not");
        k.hall.connect(0);
        k.due("send", k.sendBytes(0, Kit.bytes(Kit.GREETING + "\1\0\0")), 2);
        k.connected(0, 3, 3);
    }

    /** In 2, 3, 4 any FRAME but that one and HEARTBEATS makes it CLOSED without a word. */
    private static void onlyTheFrameThatIsDue() {
        String[] due = {"0 10.11 '", "0 10.31 3:2 400:4 0:2", "0 10.40 '"};
        String[] others = {"0 10.11 '", "0 10.31 3:2 400:4 0:2", "0 10.40 '", "0 10.11", "0 10.11 ' 0", "0 10.31 3:2 400:4 0", "0 10.31 3:2 400:4 0:2 0", "0 10.40",
            "0 10.40 ' 0", "1 10.11 '", "1 10.31 3:2 400:4 0:2", "1 10.40 '", "4 10.11 '", "256 10.31 3:2 400:4 0:2", "0 10.10 0 9", "0 10.50 0:2 ' 0:2 0:2",
            "0 10.51", "0 20.10", "1 20.10", "0 10.0", "0 H 60:2 0:4 0:2", "0 B x", "0 B", "0 8 0", "1 8", "256 8", "0 20.11 '", "0 11.10 '"};
        for (int state = 2; state <= 4; state++) {
            for (String frame : others) {
                if (!frame.equals(due[state - 2])) {
                    Kit k = new Kit("onlyTheFrameThatIsDue in " + state);
                    k.bring(0, state);
                    k.sayDue(0, 0, frame);
                    k.hear(0);
                    k.connected(0, 1, 0);
                    k.connected(0, 3, 0);
                }
            }
            Kit k = new Kit("less than four bytes in " + state);
            k.bring(0, state);
            k.due("send", k.sendBytes(0, Kit.raw(1, 0, new byte[] {0, 10, 0})), 0);
            k.hear(0);
            k = new Kit("heartbeats in " + state);
            k.bring(0, state);
            k.sayDue(0, state, "0 8");
            k.sayDue(0, state, "0 8", "0 8");
            k.hear(0);
            k.sayDue(0, state + 1, due[state - 2]);
        }
    }

    /** What is no FRAME (TYPE, SIZE, last byte) likewise. */
    private static void noFrameInHandshake() {
        byte[][] none = {{0, 0, 0, 0, 0, 0, 0}, {4, 0, 0, 0, 0, 0, 0}, {7, 0, 0, 0, 0, 0, 0}, {9, 0, 0, 0, 0, 0, 0}, {8, 0, 0, 0, 0, 1, (byte) 145},
            {8, 0, 0, (byte) 128, 0, 0, 0}, {8, 0, 0, 0, 0, 0, 0, (byte) 205}, {8, 0, 0, 0, 0, 0, 0, (byte) 207}};
        for (int state = 2; state <= 4; state++) {
            for (byte[] bytes : none) {
                Kit k = new Kit("noFrameInHandshake " + state);
                k.bring(0, state);
                byte[] first = java.util.Arrays.copyOf(bytes, bytes.length - 1);
                k.due("all but one", k.sendBytes(0, first), state);
                k.connected(0, 3, first.length);
                k.due("the last", k.sendBytes(0, new byte[] {bytes[first.length]}), 0);
                k.connected(0, 3, 0);
                k.hear(0);
            }
        }
    }

    private static void tune(int state, String arguments, int heartbeat) {
        Kit k = new Kit("tune " + arguments);
        k.bring(0, 3);
        k.sayDue(0, state, "0 10.31 " + arguments);
        k.connected(0, 1, heartbeat);
        k.hear(0);
    }

    /** u16 at most 3, u32 at most 400; HEARTBEAT may be any u16. */
    private static void tuneLimits() {
        tune(4, "3:2 400:4 7:2", 7);
        tune(4, "2:2 400:4 1:2", 1);
        tune(0, "4:2 400:4 7:2", 0);
        tune(0, "256:2 400:4 7:2", 0);
        tune(0, "65535:2 400:4 7:2", 0);
        tune(4, "3:2 399:4 7:2", 7);
        tune(0, "3:2 401:4 7:2", 0);
        tune(0, "3:2 65536:4 7:2", 0);
        tune(0, "3:2 2147483648:4 7:2", 0);
        tune(0, "3:2 4294967295:4 7:2", 0);
        tune(4, "0:2 0:4 0:2", 0);
        tune(4, "0:2 0:4 65535:2", 65535);
        tune(4, "0:2 0:4 32768:2", 32768);
    }

    /** The numbers of TUNE-OK but HEARTBEAT are not looked at beyond their limits. */
    private static void tuneIsNotLookedAtFurther() {
        Kit k = new Kit("tuneIsNotLookedAtFurther");
        k.bring(0, 3);
        k.say(0, "0 10.31 0:2 0:4 0:2", "0 10.40 '");
        k.readAll(0);
        k.openChannel(0, 3);
        k.ask(0, "3 50.10 '" + Kit.repeat("q", 40) + " 0 {}", "3 50.11 '" + Kit.repeat("q", 40) + " 0:4 0:4");
    }

    /** 6 CLOSING: all FRAMES are passed over but 10.51 and 10.50 on channel 0. */
    private static void passedOverWhileClosing() {
        String[] passed = {"0 8", "0 8 0", "1 8", "9 8", "1 10.51", "1 10.50 0:2 ' 0:2 0:2", "256 10.51", "4 10.50", "0 10.49", "0 10.52", "0 20.51", "0 11.51",
            "0 10.11 '", "0 10.40 '", "1 20.10", "1 20.41", "1 60.40 ' ' 0", "1 H 60:2 0:4 0:2", "0 B x", "0 H 10:2 51:2", "65535 65535.65535"};
        for (String frame : passed) {
            Kit k = new Kit("passedOverWhileClosing " + frame);
            k.bring(0, 6);
            k.sayDue(0, 6, frame);
            k.connected(0, 3, 0);
            k.hear(0);
            k.channel(0, 1, 0, 0);
            k.sayDue(0, 0, "0 10.51");
        }
        Kit k = new Kit("less than four bytes are passed over");
        k.bring(0, 6);
        for (int length = 0; length < 4; length++) {
            k.due("send", k.sendBytes(0, Kit.raw(1, 0, java.util.Arrays.copyOf(new byte[] {0, 10, 0}, length))), 6);
        }
        k.hear(0);
        k.due("just four", k.sendBytes(0, Kit.raw(1, 0, new byte[] {0, 10, 0, 51})), 0);
    }

    /** 10.50 and 10.51 are not looked at further there. */
    private static void endsOfClosing() {
        for (String frame : new String[] {"0 10.51", "0 10.51 1 2 3"}) {
            Kit k = new Kit("endsOfClosing " + frame);
            k.bring(0, 6);
            k.sayDue(0, 0, frame, "1 20.10");
            k.hear(0);
            k.connected(0, 3, 0);
        }
        for (String frame : new String[] {"0 10.50", "0 10.50 0:2 ' 0:2 0:2", "0 10.50 " + "'" + Kit.repeat("x", 41)}) {
            Kit k = new Kit("endsOfClosing " + frame);
            k.bring(0, 6);
            k.sayDue(0, 0, frame, "0 10.50");
            k.hear(0, "0 10.51");
            k.connected(0, 3, 0);
        }
    }

    /** What is no FRAME brings no second 501 in CLOSING, but nothing is looked at any more. */
    private static void noFrameWhileClosing() {
        byte[][] none = {{9, 0, 0, 0, 0, 0, 0}, {1, 0, 0, 0, 0, 1, (byte) 145}, {8, 0, 0, 0, 0, 0, 0, 0}};
        for (byte[] bytes : none) {
            Kit k = new Kit("noFrameWhileClosing");
            k.bring(0, 6);
            k.sayDue(0, 6, "0 8");
            k.due("send", k.sendBytes(0, bytes), 6);
            k.hear(0);
            k.sayDue(0, 6, "0 10.51");
            k.sayDue(0, 6, "0 10.50");
            k.sendBytes(0, new byte[] {1, 0});
            k.connected(0, 3, 0);
            k.hear(0);
            k.tick(19, 19);
            k.connected(0, 0, 6);
            k.tick(1, 20);
            k.connected(0, 0, 0);
            k.bring(0, 5);
        }
    }

    /** Once it has sent what is no FRAME nothing that comes is looked at, not even in the same tape. */
    private static void deafBehindNoFrame() {
        Kit k = new Kit("deafBehindNoFrame");
        k.bring(0, 5);
        byte[] end = Kit.frame("0 10.51");
        byte[] all = new byte[7 + end.length];
        all[0] = 9;
        System.arraycopy(end, 0, all, 7, end.length);
        k.due("send", k.sendBytes(0, all), 6);
        k.hear(0, "0 10.50 501:2 ' 0:2 0:2");
        k.connected(0, 3, 0);
        k.due("cut", k.hall.cut(0), true);
        k.bring(0, 5);
        k.openChannel(0, 1);
    }

    /** 20 ticks later it is CLOSED. */
    private static void twentyTicks() {
        Kit k = new Kit("twentyTicks");
        k.tick(3, 3);
        k.bring(0, 6);
        k.tick(1, 4);
        k.bring(1, 6);
        k.tick(18, 22);
        k.connected(0, 0, 6);
        k.tick(1, 23);
        k.connected(0, 0, 0);
        k.connected(1, 0, 6);
        k.tick(1, 24);
        k.connected(1, 0, 0);
        k.bring(0, 6);
        k.sayDue(0, 6, "0 8");
        k.tick(19, 43);
        k.sayDue(0, 6, "1 20.10");
        k.tick(1, 44);
        k.connected(0, 0, 0);
        k.bring(0, 6);
        k.tick(100, 144);
        k.connected(0, 0, 0);
    }

    /** What it has sent that is no whole FRAME yet is gone when it is CLOSED, however that comes. */
    private static void halfFrameIsGone() {
        Kit k = new Kit("halfFrameIsGone");
        k.bring(0, 5);
        k.sendBytes(0, new byte[] {1, 0, 1, 0, 0});
        k.connected(0, 3, 5);
        k.hall.cut(0);
        k.connected(0, 3, 0);
        k.bring(0, 5);
        k.connected(0, 3, 0);
        k.hall.cut(0);
        k.open(0, 1);
        k.sendBytes(0, new byte[] {1, 0, 1, 0, 0});
        k.tick(2, 2);
        k.connected(0, 0, 0);
        k.connected(0, 3, 0);
        k.bring(0, 6);
        k.sendBytes(0, new byte[] {1, 0, 1, 0, 0});
        k.connected(0, 3, 5);
        k.tick(20, 22);
        k.connected(0, 3, 0);
        k.bring(0, 1);
        k.sendBytes(0, Kit.bytes("RLAY"));
        k.hall.cut(0);
        k.connected(0, 3, 0);
        k.bring(0, 2);
        k.sendBytes(0, new byte[] {1, 0, 0});
        k.crash(0, 0);
        k.connected(0, 3, 0);
        k.bring(0, 5);
    }

    private static void waitingStaysTillConnected() {
        Kit k = new Kit("waitingStaysTillConnected");
        k.open(0);
        k.say(0, "1 20.20 1");
        k.sayDue(0, 0, "0 10.50 0:2 ' 0:2 0:2");
        k.due("waiting", k.hall.waiting(0), 25);
        k.tick(9, 9);
        k.crash(0, 0);
        k.due("waiting", k.hall.waiting(0), 25);
        k.due("read", k.hall.read(0, 3), 0x010001);
        k.hall.connect(0);
        k.due("waiting", k.hall.waiting(0), 0);
        k.due("nothing is left", k.thrownByRead(0, 1), 1);
    }

    /** What a queue or exchange that goes leaves in the log tells the order. */
    private static Kit withThingsThatGo(String name) {
        Kit k = new Kit(name);
        k.open(0);
        k.openChannel(0, 2);
        k.say(0, "1 40.10 'e1 'fanout 22 {}", "1 40.10 'e2 'fanout 22 {}", "1 50.10 'x1 20 {}", "1 50.10 'x2 20 {}", "1 50.20 'x1 'e2 ' 1 {}", "1 50.20 'x2 'e1 ' 1 {}");
        k.say(0, "1 50.10 'k 26 {}", "2 60.20 'k 'c 8");
        k.tick(1, 1);
        k.total(2, 3);
        k.total(3, 2);
        return k;
    }

    /** The channels are GONE, then the EXCLUSIVE queues are deleted, in order. */
    private static void channelsGoneThenExclusiveQueues() {
        int[][] due = {{1, 2}, {0, 2}, {0, 1}, {0, 0}};
        for (int way = 0; way < 4; way++) {
            for (int n = 0; n < due.length; n++) {
                Kit k = withThingsThatGo("channelsGoneThenExclusiveQueues " + way + " " + n);
                if (way == 0) {
                    k.hall.cut(0);
                } else {
                    k.say(0, new String[] {"0 10.50 0:2 ' 0:2 0:2", "1 99.1", "9 8"}[way - 1]);
                }
                k.total(2, 0);
                k.total(3, 0);
                k.total(5, 0);
                k.total(6, 3);
                k.crash(n, 0);
                k.total(2, due[n][0]);
                k.total(3, due[n][1]);
                k.exchange(0, 101, n < 3 ? '1' : -1);
            }
        }
    }

    /** Channel 1 gives back what it has ahead of channel 2: that is seen where they are too many. */
    private static void channelsOneToThree() {
        for (int first = 1; first <= 2; first++) {
            Kit k = new Kit("channelsOneToThree " + first);
            k.open(0);
            k.open(1);
            k.openChannel(1, 2);
            k.say(0, "1 50.10 'd 16 {}", "1 50.10 'q 16 {max=I1,dlx=S,dlk=Sd}");
            for (int i = 0; i < 3; i++) {
                k.publish(0, "", "q", "" + (char) ('a' + i));
                k.say(1, (i == 0 ? 3 - first : first) + " 60.70 'q 0");
            }
            k.readAll(1);
            k.hall.cut(1);
            k.total(7, 2);
            String[] order = first == 1 ? new String[] {"b", "a"} : new String[] {"a", "b"};
            k.ask(0, "1 60.70 'd 1", "1 60.71 1:4 0 ' 'd 1:4", "1 H 60:2 1:4 0:2", "1 B " + order[0]);
            k.ask(0, "1 60.70 'd 1", "1 60.71 2:4 0 ' 'd 0:4", "1 H 60:2 1:4 0:2", "1 B " + order[1]);
        }
    }

    private static void contentOfPublishIsGone() {
        Kit k = new Kit("contentOfPublishIsGone");
        k.open(0);
        k.say(0, "1 50.10 'q 16 {}", "1 60.40 ' 'q 0", "1 H 60:2 2:4 0:2", "1 B x");
        k.hall.cut(0);
        k.open(0);
        k.hard(0, 505, 0, 0, "1 B y");
        k.total(1, 0);
    }

    /** OUT: at most 5000 bytes; 10.50 has 19. */
    private static void closeHardFits() {
        for (int room : new int[] {18, 19, 20}) {
            Kit k = new Kit("closeHardFits " + room);
            k.open(0);
            k.say(0, "1 50.10 'own 20 {}");
            k.stuff(0, room);
            k.due("send", k.say(0, "1 99.9"), room < 19 ? 0 : 6);
            k.due("waiting", k.hall.waiting(0), room < 19 ? 5000 - room : 5019 - room);
            k.total(2, 0);
            k.channel(0, 1, 0, 0);
        }
    }

    private static void closeSoftFits() {
        for (int room : new int[] {18, 19, 20}) {
            Kit k = new Kit("closeSoftFits " + room);
            k.open(0);
            k.say(0, "1 50.10 'own 20 {}");
            k.stuff(0, room);
            k.due("send", k.say(0, "1 60.80 1:4 0"), room < 19 ? 0 : 5);
            k.due("waiting", k.hall.waiting(0), room < 19 ? 5000 - room : 5019 - room);
            k.total(2, room < 19 ? 0 : 1);
            k.channel(0, 1, 0, room < 19 ? 0 : 2);
        }
    }

    private static void answersFit() {
        for (int room : new int[] {12, 13, 14}) {
            Kit k = new Kit("answersFit " + room);
            k.open(0);
            k.stuff(0, room);
            k.due("send", k.say(0, "1 20.20 1"), room < 13 ? 0 : 5);
            k.due("waiting", k.hall.waiting(0), room < 13 ? 5000 - room : 5013 - room);
        }
        Kit k = new Kit("what needs no room");
        k.open(0);
        k.say(0, "1 50.10 'q 16 {}");
        k.stuff(0, 0);
        k.sayDue(0, 5, "1 50.10 'r 16 {}", "1 50.30 'q 1", "0 8");
        k.total(2, 2);
        k.due("send", k.say(0, "1 50.10 's 0 {}"), 0);
        k.total(2, 3);
    }

    /** What does not fit is not sent, not even in part: what waited before is there still, byte by byte. */
    private static void whatWaitedStays() {
        for (int room = 0; room <= 12; room++) {
            Kit k = new Kit("whatWaitedStays " + room);
            k.open(0);
            k.stuff(0, room);
            k.sayDue(0, 0, "1 20.20 1");
            k.due("the first frame", k.hall.read(0, 8), 0x0100030000000400L);
            k.due("its end", k.hall.read(0, 4), 0x14000BCEL);
            k.due("waiting", k.hall.waiting(0), 4988 - room);
        }
        for (int room = 0; room <= 46; room += 2) {
            Kit k = new Kit("whatWaitedStays of a delivery " + room);
            k.open(0);
            k.open(1);
            k.say(0, "1 50.10 'q 16 {}");
            k.say(1, "1 60.20 'q 'a 8");
            k.stuff(1, room);
            k.publish(0, "", "q", "x");
            k.connected(1, 0, 0);
            k.due("the first frame", k.hall.read(1, 8), 0x0100030000000400L);
            k.due("its end", k.hall.read(1, 4), 0x14000BCEL);
        }
    }

    /** DELIVER, HEADER and BODY are one: 22, 16 and 9 bytes. */
    private static void deliveryFits() {
        for (int room : new int[] {22, 38, 46, 47, 48}) {
            for (int noAck : new int[] {0, 2}) {
                Kit k = new Kit("deliveryFits " + room + " " + noAck);
                k.open(0);
                k.open(1);
                k.say(0, "1 50.10 'q 16 {}");
                k.say(1, "1 60.20 'q 'a " + (8 + noAck));
                k.stuff(1, room);
                k.publish(0, "", "q", "x");
                boolean fits = room >= 47;
                k.connected(1, 0, fits ? 5 : 0);
                k.due("waiting", k.hall.waiting(1), fits ? 5047 - room : 5000 - room);
                k.queue(0, 0, fits || noAck != 0 ? 0 : 1);
                k.queue(0, 1, fits && noAck == 0 ? 1 : 0);
                if (!fits && noAck == 0) {
                    k.ask(0, "1 60.70 'q 1", "1 60.71 1:4 1 ' 'q 0:4", "1 H 60:2 1:4 0:2", "1 B x");
                }
            }
        }
    }

    /** GET-OK, HEADER and BODY are one: 24, 16 and 9 bytes. */
    private static void gotFits() {
        for (int room : new int[] {24, 40, 48, 49, 50}) {
            Kit k = new Kit("gotFits " + room);
            k.open(0);
            k.open(1);
            k.say(0, "1 50.10 'q 16 {}");
            k.publish(0, "", "q", "x");
            k.stuff(1, room);
            k.due("send", k.say(1, "1 60.70 'q 0"), room < 49 ? 0 : 5);
            k.due("waiting", k.hall.waiting(1), room < 49 ? 5000 - room : 5049 - room);
            k.queue(0, 0, room < 49 ? 1 : 0);
            k.queue(0, 1, room < 49 ? 0 : 1);
        }
    }

    /** RETURN, HEADER and BODY are one: 18, 16 and 9 bytes. */
    private static void returnFits() {
        for (int room : new int[] {18, 34, 42, 43, 44}) {
            Kit k = new Kit("returnFits " + room);
            k.open(0);
            k.stuff(0, room);
            k.due("send", k.say(0, Kit.publishing("", "n", 1, "0:2", "x")), room < 43 ? 0 : 5);
            k.due("waiting", k.hall.waiting(0), room < 43 ? 5000 - room : 5043 - room);
        }
    }

    /** CANCEL has 15 bytes; of two consumers of a connection the second is sent none if the first one's did not fit. */
    private static void cancelFits() {
        for (int room : new int[] {14, 15, 29, 30, 31}) {
            Kit k = new Kit("cancelFits " + room);
            k.open(0);
            k.open(1);
            k.say(0, "1 50.10 'q 16 {}");
            k.say(1, "1 60.20 'q 'a 8", "1 60.20 'q 'b 8");
            k.stuff(1, room);
            k.ask(0, "1 50.40 'q 0", "1 50.41 0:4");
            int sent = room < 15 ? 0 : room < 30 ? 1 : 2;
            k.connected(1, 0, sent == 2 ? 5 : 0);
            k.due("waiting", k.hall.waiting(1), 5000 - room + 15 * sent);
            k.total(5, 0);
        }
        Kit k = new Kit("a second one that would fit is not sent either");
        k.open(0);
        k.open(1);
        k.say(0, "1 50.10 'q 16 {}");
        k.say(1, "1 60.20 'q 'longer 8", "1 60.20 'q 'b 8");
        k.stuff(1, 19);
        k.ask(0, "1 50.40 'q 0", "1 50.41 0:4");
        k.connected(1, 0, 0);
        k.due("waiting", k.hall.waiting(1), 4981);
        k = new Kit("what it gives back goes out with the DISPATCH behind the FRAME");
        k.open(0);
        k.open(1);
        k.say(0, "1 50.10 'q 16 {}", "1 50.10 'r 16 {}");
        k.say(1, "1 60.20 'r 'mine 8", "1 60.20 'q 'a 8");
        k.publish(0, "", "r", "x");
        k.say(0, "1 60.20 'r 'yours 8");
        k.stuff(1, 14);
        k.ask(0, "1 50.40 'q 0", "1 50.41 0:4", "1 60.60 'yours 1:4 1 ' 'r", "1 H 60:2 1:4 0:2", "1 B x");
        k = new Kit("the one who deletes is closed itself, the others are told");
        k.open(0);
        k.open(1);
        k.say(0, "1 50.10 'q 16 {}", "1 60.20 'q 'a 8");
        k.say(1, "1 60.20 'q 'b 8");
        k.stuff(0, 14);
        k.sayDue(0, 0, "1 50.40 'q 0");
        k.due("waiting", k.hall.waiting(0), 4986);
        k.hear(1, "1 60.30 'b 1");
        k.total(2, 0);
    }

    /** A confirm has 17 bytes. */
    private static void confirmFits() {
        for (int room : new int[] {16, 17, 18}) {
            Kit k = new Kit("confirmFits " + room);
            k.open(0);
            k.say(0, "1 50.10 'q 16 {}", "1 85.10 1");
            k.stuff(0, room);
            k.publish(0, "", "q", "x");
            k.connected(0, 0, room < 17 ? 0 : 5);
            k.due("waiting", k.hall.waiting(0), room < 17 ? 5000 - room : 5017 - room);
            k.ready("q", 1);
        }
    }

    private static void confirmAtTickFits() {
        for (int room : new int[] {16, 17, 33, 34}) {
            Kit k = new Kit("confirmAtTickFits " + room);
            k.open(0);
            k.say(0, "1 50.10 'q 18 {}", "1 85.10 1");
            k.stuff(0, room);
            k.publish(0, "", "q", "2:2 1", "x");
            k.publish(0, "", "q", "2:2 1", "y");
            k.tick(1, 1);
            int sent = room < 17 ? 0 : room < 34 ? 1 : 2;
            k.connected(0, 0, sent == 2 ? 5 : 0);
            k.due("waiting", k.hall.waiting(0), 5000 - room + 17 * sent);
            k.ready("q", 2);
        }
    }

    private static void heartbeatFits() {
        for (int room : new int[] {7, 8, 9}) {
            Kit k = new Kit("heartbeatFits " + room);
            k.open(0, 3);
            k.openChannel(0, 1);
            k.stuff(0, room);
            k.tick(2, 2);
            k.connected(0, 0, 5);
            k.due("waiting", k.hall.waiting(0), 5000 - room);
            k.tick(1, 3);
            k.connected(0, 0, room < 8 ? 0 : 5);
            k.due("waiting", k.hall.waiting(0), room < 8 ? 5000 - room : 5008 - room);
        }
    }

    /** 10.51 has 12 bytes; it is CLOSED with or without it. */
    private static void farewellFits() {
        for (int room : new int[] {11, 12}) {
            Kit k = new Kit("farewellFits " + room);
            k.open(0);
            k.stuff(0, room);
            k.sayDue(0, 0, "0 10.50 0:2 ' 0:2 0:2");
            k.due("waiting", k.hall.waiting(0), room < 12 ? 4989 : 5000);
            k = new Kit("farewellFits of a channel " + room);
            k.open(0);
            k.stuff(0, room);
            k.sayDue(0, room < 12 ? 0 : 5, "1 20.40 0:2 ' 0:2 0:2");
            k.due("waiting", k.hall.waiting(0), room < 12 ? 4989 : 5000);
        }
    }

    private static void heartbeatOfOne() {
        Kit k = new Kit("heartbeatOfOne");
        k.tick(5, 5);
        k.open(0, 1);
        k.tick(1, 6);
        k.hear(0, "0 8");
        k.connected(0, 0, 5);
        k.tick(1, 7);
        k.connected(0, 0, 0);
        k.hear(0);
        k.open(0, 1);
        for (int i = 8; i < 20; i++) {
            k.tick(1, i);
            k.hear(0, "0 8");
            k.sayDue(0, 5, "0 8");
        }
    }

    /** At h ticks a HEARTBEAT, not ahead of that; at 2 * h ticks the end, not ahead of that. */
    private static void heartbeatOfTwo() {
        Kit k = new Kit("heartbeatOfTwo");
        k.open(0, 2);
        k.tick(1, 1);
        k.hear(0);
        k.tick(1, 2);
        k.hear(0, "0 8");
        k.tick(1, 3);
        k.hear(0);
        k.connected(0, 0, 5);
        k.tick(1, 4);
        k.hear(0);
        k.connected(0, 0, 0);
        k.tick(100, 104);
        k.hear(0);
    }

    private static void heartbeatOfNone() {
        Kit k = new Kit("heartbeatOfNone");
        k.open(0, 0);
        k.open(1, 65535);
        for (int i = 1; i <= 300; i++) {
            k.tick(100, 100 * i);
        }
        k.connected(0, 0, 5);
        k.hear(0);
        k.connected(1, 0, 5);
        k.hear(1);
    }

    /** STATE 5 alone has heartbeats. */
    private static void heartbeatOnlyWhenOpen() {
        Kit k = new Kit("heartbeatOnlyWhenOpen");
        k.bring(0, 3);
        k.say(0, "0 10.31 3:2 400:4 1:2");
        k.connected(0, 1, 1);
        k.tick(50, 50);
        k.connected(0, 0, 4);
        k.hear(0);
        k.sayDue(0, 5, "0 10.40 '");
        k.hear(0, "0 10.41");
        k.tick(1, 51);
        k.hear(0, "0 8");
        k.say(0, "9 8");
        k.readAll(0);
        k.tick(19, 70);
        k.connected(0, 0, 6);
        k.hear(0);
        k.tick(1, 71);
        k.connected(0, 0, 0);
    }

    /** What is sent to it by another one's doing counts as sent, and does not count as come. */
    private static void sentPutsOffHeartbeat() {
        Kit k = new Kit("sentPutsOffHeartbeat");
        k.open(0, 0);
        k.openChannel(0, 1);
        k.open(1, 3);
        k.openChannel(1, 1);
        k.say(0, "1 50.10 'q 16 {}");
        k.say(1, "1 60.20 'q 'a 8");
        k.tick(2, 2);
        k.publish(0, "", "q", "x");
        k.readAll(1);
        k.tick(2, 4);
        k.hear(1);
        k.tick(1, 5);
        k.hear(1, "0 8");
        k.connected(1, 0, 5);
        k.publish(0, "", "q", "y");
        k.tick(1, 6);
        k.connected(1, 0, 0);
        k.ready("q", 2);
    }

    private static void bytesPutOffTheEnd() {
        Kit k = new Kit("bytesPutOffTheEnd");
        k.open(0, 2);
        byte[] beat = Kit.frame("0 8");
        for (int i = 0; i < beat.length; i++) {
            k.tick(3, 3 * i + 3);
            k.connected(0, 0, 5);
            k.sendBytes(0, new byte[] {beat[i]});
        }
        k.tick(4, 28);
        k.connected(0, 0, 0);
    }

    /** What comes behind a FRAME that makes it CLOSED is lost; behind one that makes it CLOSING it is looked at. */
    private static void whatIsBehindClosing() {
        Kit k = new Kit("whatIsBehindClosing");
        k.open(0);
        k.sayDue(0, 0, "0 10.50 0:2 ' 0:2 0:2", "0 10.50 0:2 ' 0:2 0:2");
        k.hear(0, "0 10.51");
        k.open(0);
        k.sayDue(0, 0, "1 99.1", "1 50.10 'q 0 {}", "0 10.50");
        k.hear(0, "0 10.50 540:2 ' 99:2 1:2", "0 10.51");
        k.total(2, 0);
        k.open(0);
        k.sayDue(0, 0, "0 8 7", "0 10.51");
        k.open(0);
        k.say(0, "1 60.40 ' 'q 0", "1 H 60:2 2:4 0:2");
        k.sayDue(0, 0, "1 B abc", "0 10.51");
        k.hear(0, "0 10.50 501:2 ' 0:2 0:2");
    }
}
