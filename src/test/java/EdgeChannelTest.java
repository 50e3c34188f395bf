/** The edges of channels: opening, GONE, acknowledgements, transactions and confirms. */
public final class EdgeChannelTest {
    public static void main(String[] args) {
        openedAnew();
        goneInOrderOfConsumers();
        goneWithItsAutoDeleteQueue();
        goneTogether();
        goneInOrderOfTags();
        goneForgets();
        flowHoldsBack();
        tagsAtTheEdge();
        tagsOfOthers();
        multipleAtTheEdge();
        multipleWithZero();
        deadByTags();
        requeuedByTags();
        recoveredByTags();
        wrongTagLeavesTheRest();
        endsWithoutItsQueue();
        modes();
        keptUpTo32();
        wrongTagAheadOfFull();
        roomAgain();
        keptCountsAsDone();
        rolledBack();
        notKept();
        doneInItsOrder();
        fullOnlyAtCommit();
        halfWay();
        goneWithKept();
        confirmNumbers();
        confirmAtOnceOrLater();
        confirmsInOrder();
        confirmsOfGoneChannel();
        confirmNotOfWhatWasPublishedBefore();
        Kit.end();
    }

    private static Kit withQueue(String name, String arguments) {
        Kit k = new Kit(name);
        k.open(0);
        k.say(0, "1 50.10 'd 16 {}", "1 50.10 'q 16 {" + arguments + "}");
        return k;
    }

    /** Publishes a, b, c .. to q and gets each of them on channel 1: tags from 1 on. */
    private static Kit withUnacked(String name, int count, String arguments) {
        Kit k = withQueue(name, arguments);
        for (int i = 0; i < count; i++) {
            k.publish(0, "", "q", letter(i));
            k.say(0, "1 60.70 'q 0");
        }
        k.readAll(0);
        k.channel(0, 1, 1, count);
        return k;
    }

    private static String letter(int i) {
        return "" + (char) ('a' + i);
    }

    /** What stands in a queue, in its order, is taken out by way of channel 2. */
    private static void holds(Kit k, String queue, String bodies) {
        k.readAll(0);
        k.say(0, "2 20.10");
        k.readAll(0);
        StringBuilder got = new StringBuilder();
        for (int i = 0; i < 40 && k.hall.queue(k.place(queue), 0) > 0; i++) {
            k.say(0, "2 60.70 '" + queue + " 1");
            byte[] bytes = k.readAll(0);
            got.append((char) bytes[bytes.length - 2]);
        }
        k.due(queue + " holds " + got + ", due is " + bodies, got.toString().equals(bodies), true);
        k.say(0, "2 20.40 0:2 ' 0:2 0:2");
        k.readAll(0);
    }

    /** No transactions, no confirms, active, no limits, delivery tags from 1 on: whatever it was before. */
    private static void openedAnew() {
        String[][] before = {{"1 90.10"}, {"1 85.10 1"}, {"1 20.20 0"}, {"1 60.10 1:2 0"}, {"1 60.10 1:2 1"}, {"1 60.70 'q 1"}};
        String[][] ends = {{"1 20.40 0:2 ' 0:2 0:2"}, {"1 60.80 99:4 0", "1 20.41"}, {"1 60.80 99:4 0", "1 20.40"}};
        for (String[] frames : before) {
            for (String[] end : ends) {
                Kit k = withQueue("openedAnew " + frames[0] + " " + end[0], "");
                k.publish(0, "", "q", "a");
                k.say(0, frames);
                k.say(0, end);
                k.channel(0, 1, 0, 0);
                k.readAll(0);
                k.openChannel(0, 1);
                for (int what = 1; what <= 6; what++) {
                    k.channel(0, 1, what, 0);
                }
                k.say(0, "1 50.30 'q 1", "1 60.20 'q 'c 8");
                k.publish(0, "", "q", "b");
                k.publish(0, "", "q", "c");
                k.hear(0, "1 60.60 'c 1:4 0 ' 'q", "1 H 60:2 1:4 0:2", "1 B b", "1 60.60 'c 2:4 0 ' 'q", "1 H 60:2 1:4 0:2", "1 B c");
            }
        }
    }

    /** Consumers are cancelled in the order in which they came; an AUTO-DELETE queue goes with its last one, ahead of the next. */
    private static void goneInOrderOfConsumers() {
        for (int n = 0; n <= 2; n++) {
            Kit k = new Kit("goneInOrderOfConsumers " + n);
            k.open(0);
            k.say(0, "1 50.10 'a 26 {}", "1 50.10 'b 26 {}", "1 60.20 'b 'x 8", "1 60.20 'a 'y 8", "1 60.20 'b 'z 8");
            k.tick(1, 1);
            k.ask(0, "1 20.40 0:2 ' 0:2 0:2", "1 20.41");
            k.total(2, 0);
            k.total(5, 0);
            k.total(6, 2);
            k.crash(n, 0);
            // The last one of b came behind that of a.
            k.total(2, 2 - n);
            k.queue(0, 100, n == 0 ? 'a' : n == 1 ? 'b' : -1);
        }
    }

    /** What is UNACKED of an AUTO-DELETE queue that goes with its last consumer is in no queue any more: it is not REQUEUED. */
    private static void goneWithItsAutoDeleteQueue() {
        for (String end : new String[] {"1 20.40 0:2 ' 0:2 0:2", "1 60.80 99:4 0", "0 10.50 0:2 ' 0:2 0:2"}) {
            Kit k = new Kit("goneWithItsAutoDeleteQueue " + end);
            k.open(0);
            k.say(0, "1 50.10 'd 18 {}", "1 50.10 'q 26 {max=I1,dlx=S,dlk=Sd}", "1 60.20 'q 'c 8");
            k.publish(0, "", "q", "2:2 1", "a");
            k.publish(0, "", "q", "2:2 1", "b");
            k.tick(1, 1);
            k.channel(0, 1, 1, 2);
            k.say(0, end);
            k.total(2, 1);
            k.total(1, 0);
            k.total(6, 1);
            k.total(7, 0);
        }
    }

    /** Nothing is handed out between one channel and the next that go with their connection. */
    private static void goneTogether() {
        Kit k = new Kit("goneTogether");
        k.open(0);
        k.openChannel(0, 2);
        k.say(0, "1 50.10 'q 16 {}", "1 60.20 'q 'a 8", "2 60.20 'q 'b 8");
        k.publish(0, "", "q", "x");
        k.readAll(0);
        k.hall.cut(0);
        k.hear(0);
        k.ready("q", 1);
        k.open(0);
        k.ask(0, "1 60.70 'q 1", "1 60.71 1:4 1 ' 'q 0:4", "1 H 60:2 1:4 0:2", "1 B x");
    }

    /** UNACKED ones are REQUEUED in the order of delivery tags, not of NUMBERS: seen where they are too many. */
    private static void goneInOrderOfTags() {
        Kit k = outOfOrder("goneInOrderOfTags");
        k.ask(0, "1 20.40 0:2 ' 0:2 0:2", "1 20.41");
        k.total(7, 2);
        holds(k, "d", "ba");
        holds(k, "q", "c");
    }

    /** Of a, b, c the tags are 4, 2, 3. */
    private static Kit outOfOrder(String name) {
        Kit k = withUnacked(name, 3, "max=I1,dlx=S,dlk=Sd");
        k.say(0, "1 60.90 1:4 1", "1 60.70 'q 0");
        k.readAll(0);
        k.channel(0, 1, 1, 3);
        k.channel(0, 1, 4, 4);
        k.total(7, 0);
        return k;
    }

    /** What a transaction keeps, a content that is due, confirms that are due are gone. */
    private static void goneForgets() {
        String[][] ends = {{"1 20.40 0:2 ' 0:2 0:2"}, {"1 60.80 99:4 0", "1 20.41"}};
        for (String[] end : ends) {
            Kit k = withQueue("goneForgets", "");
            k.say(0, "1 90.10");
            k.publish(0, "", "q", "a");
            k.channel(0, 1, 2, 1);
            k.say(0, end);
            k.say(0, "1 20.10", "1 90.10", "1 90.20");
            k.total(1, 0);
            k.channel(0, 1, 2, 0);
        }
        Kit k = withQueue("a content that is due, in a connection that is closed", "");
        k.say(0, "1 60.40 ' 'q 0", "1 H 60:2 2:4 0:2", "1 B a");
        k.sayDue(0, 0, "0 10.50 0:2 ' 0:2 0:2");
        k.open(0);
        k.hard(0, 505, 0, 0, "1 B b");
    }

    private static void flowHoldsBack() {
        Kit k = withQueue("flowHoldsBack", "");
        k.openChannel(0, 2);
        k.say(0, "1 60.20 'q 'c 8", "1 60.20 'q 'n 10", "2 60.20 'd 'e 8", "1 20.20 0");
        k.readAll(0);
        k.publish(0, "", "q", "a");
        k.publish(0, "", "d", "b");
        k.hear(0, "2 60.60 'e 1:4 0 ' 'd", "2 H 60:2 1:4 0:2", "2 B b");
        k.ready("q", 1);
        k.ask(0, "1 60.70 'q 0", "1 60.71 1:4 0 ' 'q 0:4", "1 H 60:2 1:4 0:2", "1 B a");
        k.ask(0, "1 60.90 1:4 1");
        k.ask(0, "1 20.20 0", "1 20.21 0");
        k.ask(0, "1 20.20 2", "1 20.21 1", "1 60.60 'c 2:4 1 ' 'q", "1 H 60:2 1:4 0:2", "1 B a");
    }

    private static final String[] ENDS = {"60.80", "60.90", "60.120"};

    /** 406 SOFT if there is none of just this tag: 0, one beyond the last, one that is done. */
    private static void tagsAtTheEdge() {
        for (String end : ENDS) {
            int method = Integer.parseInt(end.substring(3));
            for (String tag : new String[] {"0:4", "4:4", "2147483647:4", "2147483648:4", "4294967295:4", "4294967297:4"}) {
                Kit k = withUnacked("tagsAtTheEdge " + end + " " + tag, 3, "");
                if (tag.equals("4294967297:4")) {
                    // The u32 of it is 1, which is there.
                    k.ask(0, "1 " + end + " " + tag + " 0");
                } else {
                    k.soft(0, 406, 60, method, "1 " + end + " " + tag + " 0");
                    k.ready("q", 3);
                }
            }
            for (int tag = 1; tag <= 3; tag++) {
                Kit k = withUnacked("tagsAtTheEdge " + end + " " + tag, 3, "");
                k.ask(0, "1 " + end + " " + tag + ":4 0");
                k.channel(0, 1, 1, 2);
                k.soft(0, 406, 60, method, "1 " + end + " " + tag + ":4 0");
                k.ready("q", 2);
            }
        }
    }

    /** Only what is UNACKED on this channel. */
    private static void tagsOfOthers() {
        for (String end : ENDS) {
            Kit k = withUnacked("tagsOfOthers " + end, 1, "");
            k.openChannel(0, 2);
            k.ask(0, "2 " + end + " 1:4 0", "2 20.40 406:2 ' 60:2 " + end.substring(3) + ":2");
            k.channel(0, 1, 1, 1);
            k = withQueue("tags without ACK " + end, "");
            k.publish(0, "", "q", "a");
            k.say(0, "1 60.70 'q 1");
            k.readAll(0);
            k.channel(0, 1, 4, 1);
            k.soft(0, 406, 60, Integer.parseInt(end.substring(3)), "1 " + end + " 1:4 0");
        }
        Kit k = withUnacked("multiple with 0 is for this channel alone", 1, "");
        k.openChannel(0, 2);
        k.ask(0, "2 60.80 0:4 1");
        k.ask(0, "2 60.120 0:4 1");
        k.ask(0, "2 60.110 1", "2 60.111");
        k.channel(0, 1, 1, 1);
    }

    /** Multiple: this one and the lesser ones, not the greater ones. */
    private static void multipleAtTheEdge() {
        for (int tag = 1; tag <= 4; tag++) {
            Kit k = withUnacked("ACK up to " + tag, 4, "");
            k.ask(0, "1 60.80 " + tag + ":4 1");
            k.channel(0, 1, 1, 4 - tag);
            k.total(1, 4 - tag);
            k = withUnacked("NACK up to " + tag, 4, "dlx=S,dlk=Sd");
            k.ask(0, "1 60.120 " + tag + ":4 1");
            k.channel(0, 1, 1, 4 - tag);
            k.total(7, tag);
            k.ready("d", tag);
            k = withUnacked("NACK with requeue up to " + tag, 4, "");
            k.ask(0, "1 60.120 " + tag + ":4 3");
            k.channel(0, 1, 1, 4 - tag);
            k.ready("q", tag);
            k = withUnacked("one alone " + tag, 4, "");
            k.ask(0, "1 60.120 " + tag + ":4 2");
            k.channel(0, 1, 1, 3);
            k.ready("q", 1);
        }
    }

    private static void multipleWithZero() {
        Kit k = withUnacked("ACK of all", 3, "");
        k.ask(0, "1 60.80 0:4 1");
        k.channel(0, 1, 1, 0);
        k.total(1, 0);
        k.ask(0, "1 60.80 0:4 1");
        k = withUnacked("NACK of all", 3, "");
        k.ask(0, "1 60.120 0:4 1");
        k.total(7, 3);
        k.ask(0, "1 60.120 0:4 1");
        k = withUnacked("NACK of all with requeue", 3, "");
        k.ask(0, "1 60.120 0:4 3");
        k.ready("q", 3);
        k.ask(0, "1 60.120 0:4 3");
        k.soft(0, 406, 60, 120, "1 60.120 0:4 2");
        k = withQueue("of none", "");
        k.ask(0, "1 60.80 0:4 1");
        k.ask(0, "1 60.120 0:4 1");
        k.ask(0, "1 60.110 1", "1 60.111");
        k.soft(0, 406, 60, 90, "1 60.90 0:4 1");
    }

    private static void deadByTags() {
        Kit k = outOfOrder("deadByTags");
        k.ask(0, "1 60.120 0:4 1");
        k.total(7, 3);
        holds(k, "d", "bca");
    }

    private static void requeuedByTags() {
        Kit k = outOfOrder("requeuedByTags");
        k.ask(0, "1 60.120 4:4 3");
        k.total(7, 2);
        holds(k, "d", "ba");
        holds(k, "q", "c");
    }

    private static void recoveredByTags() {
        Kit k = outOfOrder("recoveredByTags");
        k.ask(0, "1 60.110 1", "1 60.111");
        k.total(7, 2);
        holds(k, "d", "ba");
        holds(k, "q", "c");
    }

    /** Multiple with a tag that is done is refused, whatever lesser ones there are. */
    private static void wrongTagLeavesTheRest() {
        Kit k = withUnacked("wrongTagLeavesTheRest", 3, "dlx=S,dlk=Sd");
        k.ask(0, "1 60.80 2:4 0");
        k.soft(0, 406, 60, 120, "1 60.120 2:4 1");
        k.ready("q", 2);
        k.ready("d", 0);
        k.total(7, 0);
    }

    /** Tags of a queue that is gone stay till an ACK, REQUEUE or what makes others DEAD ends them, which does nothing else. */
    private static void endsWithoutItsQueue() {
        String[] ends = {"1 60.80 1:4 0", "1 60.90 1:4 0", "1 60.90 1:4 1", "1 60.120 0:4 1", "1 60.120 1:4 3", "1 60.110 1", "1 20.40 0:2 ' 0:2 0:2"};
        for (String end : ends) {
            Kit k = new Kit("endsWithoutItsQueue " + end);
            k.open(0);
            k.say(0, "1 50.10 'd 18 {}", "1 50.10 'q 18 {dlx=S,dlk=Sd}");
            k.publish(0, "", "q", "2:2 1", "a");
            k.say(0, "1 60.70 'q 0", "1 50.40 'q 4", "1 50.10 'q 18 {dlx=S,dlk=Sd}");
            k.tick(1, 1);
            k.channel(0, 1, 1, 1);
            k.total(1, 0);
            k.queue(1, 1, 0);
            k.say(0, end);
            k.channel(0, 1, 1, 0);
            k.total(1, 0);
            k.total(6, 0);
            k.total(7, 0);
        }
    }

    private static void modes() {
        Kit k = withQueue("modes", "");
        k.channel(0, 1, 3, 0);
        k.soft(0, 406, 90, 20, "1 90.20");
        k.soft(0, 406, 90, 30, "1 90.30");
        k.say(0, "1 85.10 1");
        k.soft(0, 406, 90, 20, "1 90.20");
        k.say(0, "1 85.10 1");
        k.soft(0, 406, 90, 30, "1 90.30");
        k.say(0, "1 85.10 1");
        k.soft(0, 406, 90, 10, "1 90.10");
        k.ask(0, "1 90.10", "1 90.11");
        k.publish(0, "", "q", "a");
        k.channel(0, 1, 2, 1);
        k.ask(0, "1 90.10", "1 90.11");
        k.channel(0, 1, 2, 1);
        k.soft(0, 406, 85, 10, "1 85.10 1");
        k.total(1, 0);
        k.say(0, "1 90.10");
        k.readAll(0);
        k.ask(0, "1 90.20", "1 90.21");
        k.ask(0, "1 90.30", "1 90.31");
        k.channel(0, 1, 3, 1);
    }

    private static Kit withKept(String name, int count) {
        Kit k = withUnacked(name, 2, "");
        k.say(0, "1 90.10");
        for (int i = 0; i < count; i++) {
            k.say(0, "1 60.80 0:4 1");
        }
        k.readAll(0);
        k.channel(0, 1, 2, count);
        return k;
    }

    /** At most 32 are kept, METHODS of each kind. */
    private static void keptUpTo32() {
        String[] more = {"1 60.80 0:4 1", "1 60.120 0:4 1", "1 60.120 0:4 3"};
        for (String method : more) {
            Kit k = withKept("the 32nd " + method, 31);
            k.ask(0, method);
            k.channel(0, 1, 2, 32);
            k.ask(0, "1 90.20", "1 90.21");
            k = withKept("the 33rd " + method, 32);
            k.hard(0, 506, 60, method.contains("60.80") ? 80 : 120, method);
            k.ready("q", 2);
        }
        Kit k = withKept("the 32nd content", 31);
        k.publish(0, "", "q", "x");
        k.channel(0, 1, 2, 32);
        k.ask(0, "1 90.20", "1 90.21");
        k.total(1, 1);
        k = withKept("the 33rd content", 32);
        // Its METHOD and HEADER are fine; it is one more when it is there.
        k.ask(0, "1 60.40 ' 'q 0");
        k.ask(0, "1 H 60:2 2:4 0:2");
        k.ask(0, "1 B a");
        k.hard(0, 506, 60, 40, "1 B b");
        k = withUnacked("REJECT is kept as well", 3, "");
        k.say(0, "1 90.10");
        k.say(0, "1 60.80 1:4 0", "1 60.120 2:4 0");
        k.readAll(0);
        k.channel(0, 1, 2, 2);
        k.ask(0, "1 60.90 3:4 0");
        k.channel(0, 1, 2, 3);
        k.channel(0, 1, 1, 3);
    }

    /** 406 for a wrong tag ahead of the 506. */
    private static void wrongTagAheadOfFull() {
        for (String end : ENDS) {
            Kit k = withKept("wrongTagAheadOfFull " + end, 32);
            k.soft(0, 406, 60, Integer.parseInt(end.substring(3)), "1 " + end + " 1:4 0");
            k.ready("q", 2);
        }
        Kit k = withUnacked("a right tag when 32 are kept", 1, "");
        k.say(0, "1 90.10");
        for (int i = 0; i < 32; i++) {
            k.say(0, Kit.publishing("", "q", 0, "0:2", ""));
        }
        k.readAll(0);
        k.channel(0, 1, 2, 32);
        k.hard(0, 506, 60, 90, "1 60.90 1:4 0");
    }

    private static void roomAgain() {
        for (String end : new String[] {"1 90.20", "1 90.30"}) {
            Kit k = withKept("roomAgain " + end, 32);
            k.say(0, end);
            k.channel(0, 1, 2, 0);
            for (int i = 1; i <= 32; i++) {
                k.say(0, "1 60.80 0:4 1");
            }
            k.channel(0, 1, 2, 32);
            k.connected(0, 0, 5);
            k.sayDue(0, 6, "1 60.80 0:4 1");
        }
    }

    /** UNACKED still, but done for later METHODS of these kinds. */
    private static void keptCountsAsDone() {
        for (String first : new String[] {"1 60.80 2:4 0", "1 60.90 2:4 0", "1 60.90 2:4 1", "1 60.120 2:4 0", "1 60.120 2:4 2"}) {
            for (String end : ENDS) {
                Kit k = withUnacked("keptCountsAsDone " + first + " " + end, 3, "");
                k.ask(0, "1 90.10", "1 90.11");
                k.ask(0, first);
                k.channel(0, 1, 1, 3);
                k.queue(1, 1, 3);
                k.soft(0, 406, 60, Integer.parseInt(end.substring(3)), "1 " + end + " 2:4 0");
                k.ready("q", 3);
                k.total(7, 0);
            }
        }
        Kit k = withUnacked("multiple does what is not kept", 3, "dlx=S,dlk=Sd");
        k.ask(0, "1 90.10", "1 90.11");
        k.ask(0, "1 60.80 2:4 0");
        k.ask(0, "1 60.120 3:4 1");
        k.ask(0, "1 60.120 0:4 3");
        k.ask(0, "1 60.110 1", "1 60.111");
        k.channel(0, 1, 1, 3);
        k.ask(0, "1 90.20", "1 90.21");
        k.channel(0, 1, 1, 0);
        k.total(7, 2);
        holds(k, "d", "ac");
        k = withUnacked("RECOVER does what is not kept", 3, "");
        k.ask(0, "1 90.10", "1 90.11");
        k.ask(0, "1 60.80 2:4 0");
        k.ask(0, "1 60.110 1", "1 60.111");
        k.channel(0, 1, 1, 1);
        k.ready("q", 2);
        k.ask(0, "1 90.20", "1 90.21");
        holds(k, "q", "ac");
    }

    /** What counted as done is UNACKED as before. */
    private static void rolledBack() {
        Kit k = withUnacked("rolledBack", 3, "");
        k.ask(0, "1 90.10", "1 90.11");
        k.ask(0, "1 60.80 2:4 1");
        k.ask(0, "1 60.90 3:4 0");
        k.publish(0, "", "q", "x");
        k.channel(0, 1, 2, 3);
        k.ask(0, "1 90.30", "1 90.31");
        k.channel(0, 1, 2, 0);
        k.channel(0, 1, 1, 3);
        k.total(1, 3);
        k.ask(0, "1 60.80 2:4 0");
        k.ask(0, "1 60.90 1:4 1");
        k.ask(0, "1 60.90 3:4 0");
        k.ask(0, "1 90.20", "1 90.21");
        k.channel(0, 1, 1, 0);
        k.total(7, 1);
        holds(k, "q", "a");
        k.ask(0, "1 90.30", "1 90.31");
    }

    /** Other METHODS are done at once. */
    private static void notKept() {
        Kit k = withQueue("notKept", "");
        k.publish(0, "", "q", "a");
        k.ask(0, "1 90.10", "1 90.11");
        k.ask(0, "1 60.70 'q 0", "1 60.71 1:4 0 ' 'q 0:4", "1 H 60:2 1:4 0:2", "1 B a");
        k.ask(0, "1 60.110 1", "1 60.111");
        k.ready("q", 1);
        k.ask(0, "1 50.30 'q 0", "1 50.31 1:4");
        k.ask(0, "1 50.10 'r 0 {}", "1 50.11 'r 0:4 0:4");
        k.channel(0, 1, 2, 0);
        k.soft(0, 404, 60, 40, "1 60.40 'none ' 0");
    }

    private static void doneInItsOrder() {
        Kit k = withUnacked("doneInItsOrder", 2, "");
        k.ask(0, "1 90.10", "1 90.11");
        k.publish(0, "", "q", "x");
        k.ask(0, "1 60.90 2:4 1");
        k.publish(0, "", "q", "y");
        k.ask(0, "1 60.90 1:4 0");
        k.say(0, Kit.publishing("", "none", 1, "0:2", "z"));
        k.hear(0);
        k.total(1, 2);
        k.ask(0, "1 90.20", "1 60.50 312:2 ' ' 'none", "1 H 60:2 1:4 0:2", "1 B z", "1 90.21");
        holds(k, "q", "bxy");
        k = withUnacked("the dead of a transaction are buried in its order", 2, "dlx=S,dlk=Sd");
        k.ask(0, "1 90.10", "1 90.11");
        k.ask(0, "1 60.90 2:4 0");
        k.ask(0, "1 60.90 1:4 0");
        k.ask(0, "1 90.20", "1 90.21");
        holds(k, "d", "ba");
    }

    private static Kit full(String name) {
        Kit k = new Kit(name);
        k.open(0);
        k.say(0, "1 40.10 'f 'fanout 16 {}");
        for (int i = 0; i < 12; i++) {
            k.say(0, "1 50.10 'q" + i + " 16 {}", "1 50.20 ' 'f ' 1 {}");
        }
        for (int i = 0; i < 25; i++) {
            k.say(0, Kit.publishing("f", "", 0, "0:2", ""));
        }
        k.total(1, 300);
        k.say(0, "1 60.70 'q0 0", "1 90.10");
        k.readAll(0);
        return k;
    }

    /** In a transaction a FULL hall is no error till it is PUBLISHED; an ACK ahead of it makes room. */
    private static void fullOnlyAtCommit() {
        Kit k = full("fullOnlyAtCommit");
        k.ask(0, "1 60.80 1:4 0");
        k.say(0, Kit.publishing("", "q1", 0, "0:2", ""));
        k.total(1, 300);
        k.ask(0, "1 90.20", "1 90.21");
        k.total(1, 300);
        k.ready("q0", 24);
        k.ready("q1", 26);
    }

    private static void halfWay() {
        Kit k = full("halfWay");
        k.ask(0, "1 60.80 1:4 0");
        k.say(0, Kit.publishing("", "none", 1, "0:2", "x"));
        k.say(0, Kit.publishing("", "q1", 0, "0:2", ""));
        k.say(0, Kit.publishing("", "none", 1, "0:2", "y"));
        k.say(0, Kit.publishing("", "q2", 0, "0:2", ""));
        k.channel(0, 1, 2, 5);
        k.sayDue(0, 6, "1 90.20");
        k.hear(0, "1 60.50 312:2 ' ' 'none", "1 H 60:2 1:4 0:2", "1 B x", "0 10.50 506:2 ' 90:2 20:2");
        k.total(1, 300);
        k.ready("q0", 24);
        k.ready("q1", 26);
        k.ready("q2", 25);
        k.channel(0, 1, 2, 0);
        k = full("halfWay at the first");
        k.say(0, Kit.publishing("", "none", 0, "0:2", ""));
        k.ask(0, "1 60.80 1:4 0");
        k.hard(0, 506, 90, 20, "1 90.20");
        k.ready("q0", 25);
        k.total(1, 300);
    }

    /** What was kept of messages is UNACKED, so it is REQUEUED. */
    private static void goneWithKept() {
        Kit k = withUnacked("goneWithKept", 2, "");
        k.ask(0, "1 90.10", "1 90.11");
        k.ask(0, "1 60.80 0:4 1");
        k.hall.cut(0);
        k.ready("q", 2);
        k.total(7, 0);
    }

    private static void confirmNumbers() {
        Kit k = withQueue("confirmNumbers", "");
        k.ask(0, "1 85.10 0", "1 85.11");
        k.channel(0, 1, 5, 0);
        for (int i = 1; i <= 3; i++) {
            k.publish(0, "", "q", "x");
            k.hear(0, "1 60.80 " + i + ":4 0");
            k.channel(0, 1, 5, i);
        }
        // If it has them already, nothing else.
        k.ask(0, "1 85.10 0", "1 85.11");
        k.channel(0, 1, 5, 3);
        k.publish(0, "", "q", "x");
        k.hear(0, "1 60.80 4:4 0");
        k.ask(0, "1 85.10 1");
        k.publish(0, "", "none", "x");
        k.hear(0, "1 60.80 5:4 0");
        k.soft(0, 311, 60, 40, "1 60.40 ' 'q 0", "1 H 60:2 201:4 0:2");
        k.ask(0, "1 85.10 0", "1 85.11");
        k.publish(0, "", "q", "");
        k.hear(0, "1 60.80 1:4 0");
    }

    /** At once if no RECORD that is not SAFE was made of its coming. */
    private static void confirmAtOnceOrLater() {
        Object[][] rows = {
            // exchange, key, flags, whether it waits
            {"", "kept", "2:2 1", true}, {"", "kept", "2:2 0", false}, {"", "kept", "0:2", false}, {"", "loose", "2:2 1", false}, {"", "own", "2:2 1", false},
            {"", "none", "2:2 1", false}, {"f", "", "2:2 1", true}, {"f", "", "0:2", false}, {"", "short", "2:2 1", true}, {"", "eaten", "2:2 1", true},
        };
        for (Object[] row : rows) {
            Kit k = new Kit("confirmAtOnceOrLater " + row[0] + row[1] + " " + row[2]);
            k.open(0);
            k.openChannel(0, 2);
            k.say(0, "1 50.10 'loose 16 {}", "1 50.10 'kept 18 {}", "1 50.10 'own 22 {}", "1 50.10 'short 18 {max=I1}", "1 50.10 'eaten 18 {}");
            k.say(0, "1 40.10 'f 'fanout 16 {}", "1 50.20 'loose 'f ' 1 {}", "1 50.20 'kept 'f ' 1 {}");
            k.publish(0, "", "short", "2:2 1", "s");
            k.say(0, "1 85.10 1");
            k.tick(1, 1);
            k.hear(0);
            k.say(0, "1 60.20 'eaten 'c 10", "1 20.20 0");
            k.readAll(0);
            k.publish(0, (String) row[0], (String) row[1], (String) row[2], "x");
            boolean waits = (Boolean) row[3];
            k.hear(0, waits ? new String[0] : new String[] {"1 60.80 1:4 0"});
            k.channel(0, 1, 5, 1);
            k.tick(1, 2);
            k.hear(0, waits ? new String[] {"1 60.80 1:4 0"} : new String[0]);
            k.tick(1, 3);
            k.hear(0);
        }
        Kit k = new Kit("what leaves for it is no record of its coming");
        k.open(0);
        k.say(0, "1 50.10 'short 18 {max=I1}");
        k.publish(0, "", "short", "2:2 1", "a");
        k.tick(1, 1);
        k.say(0, "1 85.10 1");
        k.publish(0, "", "short", "b");
        k.total(6, 1);
        k.hear(0, "1 60.80 1:4 0");
        k = new Kit("where it does not come it makes no record");
        k.open(0);
        k.say(0, "1 40.10 'f 'fanout 16 {}");
        for (int i = 0; i < 12; i++) {
            k.say(0, "1 50.10 'q" + i + (i < 11 ? " 16" : " 18") + " {}", "1 50.20 ' 'f ' 1 {}");
        }
        k.tick(1, 1);
        for (int i = 0; i < 24; i++) {
            k.say(0, Kit.publishing("f", "", 0, "0:2", ""));
        }
        for (int i = 0; i < 11; i++) {
            k.say(0, Kit.publishing("", "q1", 0, "0:2", ""));
        }
        k.total(1, 299);
        k.say(0, "1 85.10 1");
        k.say(0, Kit.publishing("f", "", 0, "2:2 1", ""));
        k.total(1, 300);
        k.ready("q0", 25);
        k.ready("q11", 24);
        k.total(6, 0);
        k.hear(0, "1 60.80 1:4 0");
    }

    /** In the order of numbers, channel by channel, connection by connection. */
    private static void confirmsInOrder() {
        Kit k = new Kit("confirmsInOrder");
        k.open(0);
        k.openChannel(0, 2);
        k.open(1);
        k.say(0, "1 50.10 'q 18 {}", "1 85.10 1", "2 85.10 1");
        k.say(1, "1 85.10 1");
        k.publish(1, "", "q", "2:2 1", "a");
        k.say(0, "2 60.40 ' 'q 0", "2 H 60:2 0:4 2:2 1");
        k.publish(0, "", "q", "2:2 1", "b");
        k.publish(0, "", "q", "c");
        k.hear(0, "1 60.80 2:4 0");
        k.publish(0, "", "q", "2:2 1", "d");
        k.say(0, "2 60.40 ' 'q 0", "2 H 60:2 0:4 2:2 1");
        k.tick(1, 1);
        k.hear(0, "1 60.80 1:4 0", "1 60.80 3:4 0", "2 60.80 1:4 0", "2 60.80 2:4 0");
        k.hear(1, "1 60.80 1:4 0");
        k.channel(0, 1, 5, 3);
        k.channel(0, 2, 5, 2);
        k.publish(0, "", "q", "2:2 1", "e");
        k.tick(3, 4);
        k.hear(0, "1 60.80 4:4 0");
    }

    private static void confirmsOfGoneChannel() {
        String[][] ends = {{"1 20.40 0:2 ' 0:2 0:2", "1 20.10"}, {"1 60.80 99:4 0"}, {"1 60.80 99:4 0", "1 20.41", "1 20.10", "1 85.10 1"}, {"9 8"}};
        for (String[] end : ends) {
            Kit k = new Kit("confirmsOfGoneChannel " + end[0]);
            k.open(0);
            k.say(0, "1 50.10 'q 18 {}", "1 85.10 1");
            k.publish(0, "", "q", "2:2 1", "a");
            k.say(0, end);
            k.readAll(0);
            k.tick(1, 1);
            k.hear(0);
            k.channel(0, 1, 5, 0);
        }
    }

    private static void confirmNotOfWhatWasPublishedBefore() {
        Kit k = new Kit("confirmNotOfWhatWasPublishedBefore");
        k.open(0);
        k.say(0, "1 50.10 'q 18 {}");
        k.publish(0, "", "q", "2:2 1", "a");
        k.say(0, "1 85.10 1");
        k.tick(1, 1);
        k.hear(0);
        k.publish(0, "", "q", "2:2 1", "b");
        k.tick(1, 2);
        k.hear(0, "1 60.80 1:4 0");
    }
}
