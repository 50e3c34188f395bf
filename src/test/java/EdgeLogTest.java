/** The edges of THE LOG, of a CRASH and of a TICK: what makes a record, in which order, and what is left. */
public final class EdgeLogTest {
    public static void main(String[] args) {
        recordsOfExchanges();
        recordsOfQueues();
        recordsOfBindings();
        recordsOfComing();
        recordsOfLeaving();
        noRecordOfOtherWays();
        noRecordOfWhatGoesAlong();
        safeFromTheNextTick();
        eachPrefix();
        unbindThenExchange();
        cameThenLeft();
        queueByQueue();
        purgedOneByOne();
        ackedByTags();
        numbersOfCrash();
        leftIsJustWhatIsSafe();
        orderOfComing();
        messagesInOrder();
        comingAtThisTick();
        asTheyWere();
        unackedAreReady();
        limitsBehindACrash();
        moreThanMaxStays();
        goneAndMadeAgain();
        numbersGoOn();
        everythingElseIsClosed();
        twoHundredCrashes();
        tickMakesSafeFirst();
        recordsWithinATick();
        ticksOneByOne();
        expiredAheadOfConnections();
        confirmsAheadOfTheClock();
        Kit.end();
    }

    private static Kit with(String name, String... frames) {
        Kit k = new Kit(name);
        k.open(0);
        k.say(0, frames);
        return k;
    }

    /** A DURABLE exchange is made or deleted, by whatever. */
    private static void recordsOfExchanges() {
        for (int bits = 0; bits < 16; bits += 2) {
            int one = (bits & 2) != 0 ? 1 : 0;
            Kit k = with("recordsOfExchanges " + bits, "1 50.10 'q 16 {}");
            k.say(0, "1 40.10 'e 'direct " + (bits | 16) + " {}");
            k.total(6, one);
            k.say(0, "1 40.10 'e 'direct " + (bits | 16) + " {}", "1 40.10 'e 'direct 17 {}");
            k.total(6, one);
            k.say(0, "1 50.20 'q 'e ' 1 {}", "1 50.50 'q 'e ' {}");
            boolean went = (bits & 4) != 0;
            k.total(3, went ? 0 : 1);
            k.total(6, went ? 2 * one : one);
            if (!went) {
                k.say(0, "1 40.20 'e 2");
                k.total(6, 2 * one);
            }
        }
    }

    /** A DURABLE queue that is not EXCLUSIVE (a KEPT one) is made or deleted, by whatever. */
    private static void recordsOfQueues() {
        for (int bits = 0; bits < 16; bits += 2) {
            int one = (bits & 6) == 2 ? 1 : 0;
            Kit k = with("recordsOfQueues " + bits, "1 50.10 'q " + (bits | 16) + " {}");
            k.total(6, one);
            k.say(0, "1 50.10 'q " + (bits | 16) + " {}", "1 50.10 'q 17 {}", "1 60.20 'q 'c 8", "1 60.30 'c 1");
            boolean went = (bits & 8) != 0;
            k.total(2, went ? 0 : 1);
            k.total(6, went ? 2 * one : one);
            k.hall.cut(0);
            went = went || (bits & 4) != 0;
            k.total(2, went ? 0 : 1);
            k.total(6, (bits & 8) != 0 ? 2 * one : one);
            if (!went) {
                k.open(0);
                k.say(0, "1 50.40 'q 4");
                k.total(6, 2 * one);
            }
        }
    }

    /** From a DURABLE exchange to a KEPT queue, by 50.20 and 50.50. */
    private static void recordsOfBindings() {
        for (int exchange : new int[] {16, 18}) {
            for (int queue : new int[] {16, 18, 20, 22}) {
                int one = exchange == 18 && queue == 18 ? 1 : 0;
                Kit k = with("recordsOfBindings " + exchange + " " + queue, "1 40.10 'e 'direct " + exchange + " {}", "1 50.10 'q " + queue + " {}");
                k.tick(1, 1);
                k.total(6, 0);
                k.say(0, "1 50.20 'q 'e 'k 1 {a=I1}");
                k.total(6, one);
                k.say(0, "1 50.20 'q 'e 'k 1 {a=I1}", "1 50.20 'q 'e 'k 0 {a=I2,a=I1}");
                k.total(6, one);
                k.say(0, "1 50.50 'q 'e 'k {}");
                k.total(6, one);
                k.say(0, "1 50.50 'q 'e 'k {a=I1}");
                k.total(6, 2 * one);
                k.say(0, "1 50.50 'q 'e 'k {a=I1}");
                k.total(6, 2 * one);
            }
        }
    }

    /** A PERSISTENT message COMES to a KEPT queue. */
    private static void recordsOfComing() {
        for (int queue : new int[] {16, 18, 20, 22, 26}) {
            for (String flags : new String[] {"0:2", "2:2 0", "2:2 1", "2:2 200", "13:2 5 9:4 {a=I1}"}) {
                boolean recorded = (queue == 18 || queue == 26) && (flags.equals("2:2 1") || flags.equals("2:2 200"));
                Kit k = with("recordsOfComing " + queue + " " + flags, "1 50.10 'q " + queue + " {}");
                k.tick(1, 1);
                k.publish(0, "", "q", flags, "x");
                k.total(1, 1);
                k.total(6, recorded ? 1 : 0);
            }
        }
    }

    /** It leaves, by whatever: one RECORD each. */
    private static void recordsOfLeaving() {
        String[][] ways = {
            {"1 60.70 'q 1"}, {"1 60.70 'q 0", "1 60.80 1:4 0"}, {"1 60.70 'q 0", "1 60.90 1:4 0"}, {"1 60.70 'q 0", "1 60.120 0:4 1"}, {"1 50.30 'q 1"},
            {"1 60.20 'q 'c 10"}, {"1 60.20 'q 'c 8", "1 60.80 1:4 0"}, {"1 60.40 ' 'q 0", "1 H 60:2 0:4 0:2"},
            {"1 90.10", "1 60.70 'q 0", "1 60.80 1:4 0", "1 90.20"},
        };
        for (String[] way : ways) {
            for (int queue : new int[] {16, 18}) {
                for (int persistent : new int[] {0, 1}) {
                    Kit k = with("recordsOfLeaving " + way[0], "1 50.10 'q " + queue + " {max=I1}");
                    k.publish(0, "", "q", "2:2 " + persistent, "x");
                    k.tick(1, 1);
                    k.say(0, way);
                    k.total(6, queue == 18 && persistent == 1 ? 1 : 0);
                }
            }
        }
        Kit k = with("three are purged", "1 50.10 'q 18 {}");
        for (int i = 0; i < 4; i++) {
            k.publish(0, "", "q", "2:2 " + (i == 2 ? 0 : 1), "x");
        }
        k.tick(1, 1);
        k.ask(0, "1 50.30 'q 0", "1 50.31 4:4");
        k.total(6, 3);
    }

    /** To be UNACKED, REQUEUED or REDELIVERED is no leaving. */
    private static void noRecordOfOtherWays() {
        Kit k = with("noRecordOfOtherWays", "1 50.10 'q 18 {}");
        k.publish(0, "", "q", "2:2 1", "x");
        k.tick(1, 1);
        k.say(0, "1 60.70 'q 0", "1 60.90 1:4 1", "1 60.70 'q 0", "1 60.120 2:4 2", "1 60.70 'q 0", "1 60.110 1", "1 60.20 'q 'c 8", "1 60.30 'c 1");
        k.total(6, 0);
        k.say(0, "1 90.10", "1 60.80 0:4 1");
        k.total(6, 0);
        k.say(0, "1 90.30", "1 20.40 0:2 ' 0:2 0:2");
        k.total(6, 0);
        k.total(1, 1);
    }

    /** What goes with an exchange or queue has none. */
    private static void noRecordOfWhatGoesAlong() {
        Kit k = with("noRecordOfWhatGoesAlong", "1 40.10 'e 'direct 18 {}", "1 50.10 'q 18 {}", "1 50.20 'q 'e 'a 1 {}", "1 50.20 'q 'e 'b 1 {}");
        k.publish(0, "", "q", "2:2 1", "x");
        k.publish(0, "", "q", "2:2 1", "y");
        k.say(0, "1 60.70 'q 0");
        k.tick(1, 1);
        k.say(0, "1 40.20 'e 2");
        k.total(4, 0);
        k.total(6, 1);
        k.say(0, "1 50.40 'q 4");
        k.total(6, 2);
        k.say(0, "1 60.90 1:4 0");
        k.total(6, 2);
        k.channel(0, 1, 1, 0);
    }

    private static void safeFromTheNextTick() {
        for (int ticks : new int[] {0, 1, 100}) {
            Kit k = with("safeFromTheNextTick " + ticks, "1 50.10 'q 18 {}");
            k.total(6, 1);
            if (ticks > 0) {
                k.tick(ticks, ticks);
            }
            k.total(6, ticks > 0 ? 0 : 1);
            k.crash(0, 0);
            k.total(2, ticks > 0 ? 1 : 0);
            k.total(6, 0);
        }
    }

    /** The first n RECORDS that are not SAFE are SAFE: for each n, and beyond. */
    private static void eachPrefix() {
        for (int n : new int[] {0, 1, 2, 3, 4, 5, 6, 1000, Integer.MAX_VALUE}) {
            Kit k = with("eachPrefix " + n);
            for (int i = 0; i < 5; i++) {
                k.say(0, "1 50.10 'q" + i + " 18 {}");
            }
            k.crash(n, 0);
            k.total(2, Math.min(n, 5));
            k.total(6, 0);
            for (int i = 0; i < Math.min(n, 5); i++) {
                k.queue(i, 101, '0' + i);
            }
            k.crash(5, 0);
            k.total(2, Math.min(n, 5));
        }
    }

    /** Of 50.50: that of the binding, then that of an exchange that goes with it. */
    private static void unbindThenExchange() {
        for (int n = 0; n <= 2; n++) {
            Kit k = with("unbindThenExchange " + n, "1 40.10 'e 'direct 22 {}", "1 50.10 'q 18 {}", "1 50.20 'q 'e ' 1 {}");
            k.tick(1, 1);
            k.say(0, "1 50.50 'q 'e ' {}");
            k.total(6, 2);
            k.crash(n, 0);
            k.total(4, n == 0 ? 1 : 0);
            k.total(3, n == 2 ? 0 : 1);
        }
        Kit k = with("the binding alone has none, the exchange has", "1 40.10 'e 'direct 22 {}", "1 50.10 'q 16 {}", "1 50.20 'q 'e ' 1 {}");
        k.tick(1, 1);
        k.say(0, "1 50.50 'q 'e ' {}");
        k.total(6, 1);
    }

    /** With max: that of the one that came, then those of the ones that leave. */
    private static void cameThenLeft() {
        for (int n = 0; n <= 2; n++) {
            Kit k = with("cameThenLeft " + n, "1 50.10 'q 18 {max=I1}");
            k.publish(0, "", "q", "2:2 1", "a");
            k.tick(1, 1);
            k.publish(0, "", "q", "2:2 1", "b");
            k.total(6, 2);
            k.crash(n, n == 1 ? 2 : 1);
            k.open(0);
            String first = n == 2 ? "b" : "a";
            k.ask(0, "1 60.70 'q 1", "1 60.71 1:4 1 ' 'q " + (n == 1 ? 1 : 0) + ":4", "1 H 60:2 1:4 2:2 1", "1 B " + first);
        }
    }

    /** A message COMES to each queue in turn, in the order in which these were made. */
    private static void queueByQueue() {
        for (int n = 0; n <= 3; n++) {
            Kit k = with("queueByQueue " + n, "1 40.10 'f 'fanout 18 {}", "1 50.10 'c 18 {}", "1 50.10 'a 18 {}", "1 50.10 'b 18 {}", "1 50.20 'a 'f ' 1 {}", "1 50.20 'b 'f ' 1 {}",
                    "1 50.20 'c 'f ' 1 {}");
            k.tick(1, 1);
            k.publish(0, "f", "", "2:2 1", "x");
            k.total(6, 3);
            k.crash(n, n);
            k.ready("c", n > 0 ? 1 : 0);
            k.ready("a", n > 1 ? 1 : 0);
            k.ready("b", n > 2 ? 1 : 0);
        }
    }

    private static String left(Kit k, String queue) {
        k.open(0);
        StringBuilder got = new StringBuilder();
        for (int i = 0; i < 20 && k.hall.queue(k.place(queue), 0) > 0; i++) {
            k.say(0, "1 60.70 '" + queue + " 1");
            byte[] bytes = k.readAll(0);
            got.append((char) bytes[bytes.length - 2]);
        }
        return got.toString();
    }

    private static void purgedOneByOne() {
        String[] due = {"bdac", "dac", "ac", "c", ""};
        for (int n = 0; n <= 4; n++) {
            Kit k = with("purgedOneByOne " + n, "1 50.10 'q 18 {pri=I9}");
            k.publish(0, "", "q", "2:2 1", "a");
            k.publish(0, "", "q", "3:2 7 1", "b");
            k.publish(0, "", "q", "2:2 1", "c");
            k.publish(0, "", "q", "3:2 5 1", "d");
            k.tick(1, 1);
            k.say(0, "1 50.30 'q 1");
            k.crash(n, 4 - n);
            String got = left(k, "q");
            k.due("left is " + got, got.equals(due[n]), true);
        }
    }

    private static void ackedByTags() {
        // Tags: b 2, c 3, a 4.
        String[] due = {"abc", "ac", "a", ""};
        for (String end : new String[] {"1 60.80 0:4 1", "1 60.80 4:4 1", "1 60.120 0:4 1"}) {
            for (int n = 0; n <= 3; n++) {
                Kit k = with("ackedByTags " + end + " " + n, "1 50.10 'q 18 {}");
                for (String body : new String[] {"a", "b", "c"}) {
                    k.publish(0, "", "q", "2:2 1", body);
                }
                k.say(0, "1 60.70 'q 0", "1 60.70 'q 0", "1 60.70 'q 0", "1 60.90 1:4 1", "1 60.70 'q 0");
                k.tick(1, 1);
                k.say(0, end);
                k.total(6, 3);
                k.crash(n, 3 - n);
                String got = left(k, "q");
                k.due("left is " + got, got.equals(due[n]), true);
            }
        }
    }

    private static void numbersOfCrash() {
        Kit k = with("numbersOfCrash", "1 50.10 'q 18 {}");
        k.due("crash(-1)", k.crashThrows(-1), true);
        k.due("crash(MIN)", k.crashThrows(Integer.MIN_VALUE), true);
        k.connected(0, 0, 5);
        k.total(6, 1);
        k.total(2, 1);
        k.publish(0, "", "q", "2:2 1", "x");
        k.crash(Integer.MAX_VALUE, 1);
        k.total(2, 1);
    }

    /** Nothing that has no RECORD is left. */
    private static void leftIsJustWhatIsSafe() {
        Kit k = with("leftIsJustWhatIsSafe", "1 40.10 'd 'direct 18 {}", "1 40.10 'n 'direct 16 {}", "1 50.10 'k 18 {}", "1 50.10 'l 16 {}", "1 50.10 'x 22 {}");
        for (String exchange : new String[] {"d", "n"}) {
            for (String queue : new String[] {"k", "l", "x"}) {
                k.say(0, "1 50.20 '" + queue + " '" + exchange + " ' 1 {}");
            }
        }
        for (String queue : new String[] {"k", "l", "x"}) {
            k.publish(0, "", queue, "2:2 1", "p");
            k.publish(0, "", queue, "2:2 0", "n");
        }
        k.total(1, 6);
        k.total(4, 6);
        k.tick(1, 1);
        k.crash(0, 1);
        k.total(1, 1);
        k.total(2, 1);
        k.total(3, 1);
        k.total(4, 1);
        k.queue(0, 100, 'k');
        k.queue(0, 5, 1);
        k.exchange(0, 100, 'd');
        k.exchange(0, 2, 1);
    }

    /** Exchanges, queues, bindings each in the order in which they came. */
    private static void orderOfComing() {
        Kit k = with("orderOfComing", "1 50.10 'b 18 {}", "1 40.10 'y 'direct 18 {}", "1 50.10 'n 16 {}", "1 50.10 'a 18 {}", "1 40.10 'x 'fanout 18 {}", "1 50.10 'c 18 {}");
        k.tick(1, 1);
        k.say(0, "1 50.40 'b 4", "1 50.10 'b 18 {}", "1 40.20 'y 2", "1 40.10 'y 'topic 18 {}");
        k.crash(99, 0);
        k.queue(0, 100, 'a');
        k.queue(1, 100, 'c');
        k.queue(2, 100, 'b');
        k.queue(3, 0, -1);
        k.exchange(0, 100, 'x');
        k.exchange(1, 100, 'y');
        k.exchange(1, 0, 2);
        k = with("and as they were when what followed was lost", "1 50.10 'b 18 {}", "1 50.10 'a 18 {}", "1 40.10 'y 'direct 18 {}", "1 40.10 'x 'fanout 18 {}");
        k.tick(1, 1);
        k.say(0, "1 50.40 'b 4", "1 50.10 'b 18 {max=I1}", "1 40.20 'y 2", "1 40.10 'y 'topic 18 {}");
        k.crash(0, 0);
        k.queue(0, 100, 'b');
        k.queue(1, 100, 'a');
        k.exchange(0, 100, 'y');
        k.exchange(0, 0, 0);
        k.open(0);
        k.ask(0, "1 50.10 'b 2 {}", "1 50.11 'b 0:4 0:4");
    }

    /** READY, REDELIVERED, in the order of NUMBERS, the greater PRIORITY first. */
    private static void messagesInOrder() {
        Kit k = with("messagesInOrder", "1 50.10 'p 18 {pri=I5}", "1 50.10 'q 18 {}");
        for (String queue : new String[] {"p", "q"}) {
            k.publish(0, "", queue, "2:2 1", "a");
            k.publish(0, "", queue, "3:2 9 1", "b");
            k.publish(0, "", queue, "3:2 5 1", "c");
            k.publish(0, "", queue, "3:2 1 1", "d");
            k.say(0, "1 60.70 '" + queue + " 0", "1 60.70 '" + queue + " 0");
        }
        k.tick(1, 1);
        k.crash(0, 8);
        String got = left(k, "p");
        k.due("p holds " + got, got.equals("bcda"), true);
        k.hall.cut(0);
        got = left(k, "q");
        k.due("q holds " + got, got.equals("abcd"), true);
        k = with("a message that nobody got is REDELIVERED as well", "1 50.10 'q 18 {}");
        k.publish(0, "", "q", "2:2 1", "a");
        k.crash(2, 1);
        k.open(0);
        k.ask(0, "1 60.70 'q 0", "1 60.71 1:4 1 ' 'q 0:4", "1 H 60:2 1:4 2:2 1", "1 B a");
    }

    /** ttl and EXPIRATION count from this tick on. */
    private static void comingAtThisTick() {
        for (String flags : new String[] {"2:2 1", "6:2 1 4:4"}) {
            Kit k = with("comingAtThisTick " + flags, "1 50.10 'q 18 {" + (flags.startsWith("2") ? "ttl=I4" : "") + "}");
            k.publish(0, "", "q", flags, "x");
            k.tick(3, 3);
            k.ready("q", 1);
            k.crash(0, 1);
            k.tick(3, 6);
            k.ready("q", 1);
            k.tick(1, 7);
            k.ready("q", 0);
            k.total(7, 1);
        }
    }

    /** Else as they were: exchange, key, HEADER, BODY, DEATHS. */
    private static void asTheyWere() {
        Kit k = with("asTheyWere", "1 40.10 'e 'fanout 18 {}", "1 50.10 'q 18 {}", "1 50.20 'q 'e ' 1 {}");
        String flags = "15:2 9 1 700:4 {a=I1,b=Sx,a=t2}";
        k.publish(0, "e", "some.key", flags, "body");
        k.tick(1, 1);
        k.crash(0, 1);
        k.open(0);
        k.ask(0, "1 60.70 'q 0", "1 60.71 1:4 1 'e 'some.key 0:4", "1 H 60:2 4:4 " + flags, "1 B body");
        for (int before = 0; before <= 3; before++) {
            k = with("DEATHS " + before, "1 50.10 'q 18 {ttl=I1,dlx=S}");
            k.publish(0, "", "q", "2:2 1", "x");
            if (before > 0) {
                k.tick(before, before);
            }
            k.crash(9, 1);
            for (int i = before; i < 3; i++) {
                k.tick(1, i + 1);
                k.ready("q", 1);
            }
            k.tick(1, 4);
            k.ready("q", 0);
            k.total(7, 4);
        }
    }

    private static void unackedAreReady() {
        Kit k = with("unackedAreReady", "1 50.10 'q 18 {}");
        for (int i = 0; i < 3; i++) {
            k.publish(0, "", "q", "2:2 1", "x");
        }
        k.say(0, "1 60.70 'q 0", "1 60.20 'q 'c 8", "1 90.10", "1 60.80 1:4 0");
        k.queue(0, 1, 3);
        k.crash(99, 3);
        k.queue(0, 0, 3);
        k.queue(0, 1, 0);
        k.queue(0, 2, 0);
        k.total(1, 3);
    }

    /** What was UNACKED before a CRASH counts for no limit behind it. */
    private static void limitsBehindACrash() {
        for (String limit : new String[] {"1 60.10 1:2 1", "1 60.10 1:2 0"}) {
            Kit k = with("limitsBehindACrash " + limit, "1 50.10 'q 18 {}", "1 60.20 'q 'c 8");
            k.publish(0, "", "q", "2:2 1", "x");
            k.publish(0, "", "q", "2:2 1", "y");
            k.channel(0, 1, 1, 2);
            k.crash(99, 2);
            k.open(0);
            k.say(0, limit, "1 60.20 'q 'c 8");
            k.channel(0, 1, 1, 1);
            k.channel(0, 1, 4, 1);
            k.say(0, "1 60.80 1:4 0");
            k.channel(0, 1, 4, 2);
            k.queue(0, 1, 1);
        }
    }

    /** A CRASH looks at no max; the next one that comes, or is REQUEUED, does. */
    private static void moreThanMaxStays() {
        for (int way = 0; way < 2; way++) {
            Kit k = with("moreThanMaxStays " + way, "1 50.10 'q 18 {max=I1}");
            for (int i = 0; i < 3; i++) {
                k.publish(0, "", "q", "2:2 1", "" + i);
                k.say(0, "1 60.70 'q 0");
            }
            k.tick(1, 1);
            k.crash(0, 3);
            k.ready("q", 3);
            k.tick(1, 2);
            k.ready("q", 3);
            k.total(7, 0);
            k.open(0);
            if (way == 0) {
                k.publish(0, "", "q", "n");
                k.total(7, 3);
            } else {
                k.say(0, "1 60.70 'q 0", "1 60.90 1:4 1");
                k.total(7, 2);
            }
            k.ready("q", 1);
        }
    }

    /** What went with a queue is gone with its RECORD, and does not come again with one of the same name. */
    private static void goneAndMadeAgain() {
        int[][] due = {{1, 1, 1}, {0, 0, 0}, {1, 0, 0}, {1, 1, 0}, {1, 1, 1}};
        for (int n = 0; n <= 4; n++) {
            Kit k = with("goneAndMadeAgain " + n, "1 40.10 'e 'direct 18 {}", "1 50.10 'q 18 {}", "1 50.20 'q 'e ' 1 {}");
            k.publish(0, "", "q", "2:2 1", "x");
            k.tick(1, 1);
            k.say(0, "1 50.40 'q 4", "1 50.10 'q 18 {}", "1 50.20 'q 'e ' 1 {}");
            k.publish(0, "", "q", "2:2 1", "y");
            k.total(6, 4);
            k.crash(n, due[n][2]);
            k.total(2, due[n][0]);
            k.total(4, due[n][1]);
            k.total(1, due[n][2]);
        }
        Kit k = with("bindings go with their exchange", "1 40.10 'e 'direct 18 {}", "1 50.10 'q 18 {}", "1 50.20 'q 'e ' 1 {}");
        k.tick(1, 1);
        k.say(0, "1 40.20 'e 2", "1 40.10 'e 'direct 18 {}");
        k.crash(2, 0);
        k.total(3, 1);
        k.total(4, 0);
        k.queue(0, 5, 0);
    }

    /** NUMBERS, numbers of gen- names, the clock, total(7) go on. */
    private static void numbersGoOn() {
        Kit k = with("numbersGoOn", "1 50.10 ' 18 {}", "1 50.10 'd 16 {max=I1}", "1 50.10 'q 18 {}");
        k.publish(0, "", "d", "x");
        k.publish(0, "", "d", "x");
        k.publish(0, "", "q", "2:2 1", "a");
        k.tick(5, 5);
        k.crash(0, 1);
        k.total(0, 5);
        k.total(7, 1);
        k.open(0);
        k.ask(0, "1 50.10 ' 0 {}", "1 50.11 'gen-2 0:4 0:4");
        k.publish(0, "", "q", "2:2 1", "b");
        k.crash(0, 1);
        k.open(0);
        k.ask(0, "1 50.10 ' 0 {}", "1 50.11 'gen-3 0:4 0:4");
        k.publish(0, "", "q", "c");
        k.ask(0, "1 60.70 'q 1", "1 60.71 1:4 1 ' 'q 1:4", "1 H 60:2 1:4 2:2 1", "1 B a");
        k.ask(0, "1 60.70 'q 1", "1 60.71 2:4 0 ' 'q 0:4", "1 H 60:2 1:4 0:2", "1 B c");
        k.tick(1, 6);
    }

    /** All connections are CLOSED, in whichever STATE; nothing is sent, nothing REQUEUED, no AUTO-DELETE one goes. */
    private static void everythingElseIsClosed() {
        Kit k = new Kit("everythingElseIsClosed");
        k.open(0);
        k.bring(1, 1);
        k.bring(2, 3);
        k.bring(3, 6);
        k.say(0, "1 40.10 'e 'direct 22 {}", "1 50.10 'q 26 {max=I1,dlx=S,dlk=Sd}", "1 50.10 'd 18 {}", "1 50.10 'own 20 {}", "1 50.20 'q 'e ' 1 {}", "1 60.20 'q 'c 8");
        k.publish(0, "", "q", "2:2 1", "a");
        k.publish(0, "", "q", "2:2 1", "b");
        k.readAll(0);
        k.tick(1, 1);
        k.hall.type(0x524C4159L, 4);
        k.crash(0, 2);
        for (int c = 0; c < 4; c++) {
            k.connected(c, 0, 0);
            k.connected(c, 2, 0);
            k.connected(c, 3, 0);
            k.due("waiting", k.hall.waiting(c), 0);
            k.due("cut", k.hall.cut(c), false);
        }
        k.total(2, 2);
        k.total(3, 1);
        k.total(4, 1);
        k.total(7, 0);
        k.ready("q", 2);
        k.due("the tape stays", k.hall.type(0x0901L, 4), true);
        k.hall.connect(2);
        k.due("send", k.hall.send(2), 2);
    }

    /** IllegalArgumentException if 200 CRASHES have been; one that was refused is none. */
    private static void twoHundredCrashes() {
        Kit k = with("twoHundredCrashes", "1 50.10 'q 18 {}");
        k.due("refused", k.crashThrows(-1), true);
        for (int i = 1; i <= 199; i++) {
            k.crash(1, 0);
        }
        k.due("refused", k.crashThrows(-1), true);
        k.total(2, 1);
        k.crash(0, 0);
        k.open(0);
        k.say(0, "1 50.10 'r 18 {}");
        k.due("the 201st", k.crashThrows(0), true);
        k.due("the 201st", k.crashThrows(1), true);
        k.due("the 201st", k.crashThrows(-1), true);
        k.connected(0, 0, 5);
        k.total(2, 2);
        k.total(6, 1);
        k.tick(1, 1);
        k.total(6, 0);
    }

    /** RECORDS are SAFE ahead of what else a tick does. */
    private static void tickMakesSafeFirst() {
        Kit k = with("tickMakesSafeFirst", "1 50.10 'q 18 {ttl=I1}");
        k.publish(0, "", "q", "2:2 1", "x");
        k.total(6, 2);
        k.tick(1, 1);
        k.ready("q", 0);
        k.total(6, 1);
        k.crash(0, 1);
        k.tick(1, 2);
        k.total(6, 1);
        k.crash(1, 0);
    }

    /** What a tick itself brings to the log is SAFE with the next one. */
    private static void recordsWithinATick() {
        Kit k = with("recordsWithinATick", "1 50.10 'd 18 {}", "1 50.10 'q 18 {ttl=I2,dlx=S,dlk=Sd}", "1 50.10 'r 18 {}");
        k.publish(0, "", "q", "2:2 1", "x");
        k.tick(1, 1);
        k.total(6, 0);
        k.tick(1, 2);
        k.ready("d", 1);
        k.total(6, 2);
        k.tick(1, 3);
        k.total(6, 0);
        int[][] due = {{1, 0}, {0, 0}, {0, 1}};
        for (int n = 0; n <= 2; n++) {
            k = with("recordsWithinATick " + n, "1 50.10 'd 18 {}", "1 50.10 'q 18 {ttl=I2,dlx=S,dlk=Sd}");
            k.publish(0, "", "q", "2:2 1", "x");
            k.tick(2, 2);
            k.crash(n, due[n][0] + due[n][1]);
            k.ready("q", due[n][0]);
            k.ready("d", due[n][1]);
        }
    }

    /** n TICKS, 1 to 100. */
    private static void ticksOneByOne() {
        for (int n : new int[] {0, -1, 101, 1000, Integer.MIN_VALUE, Integer.MAX_VALUE}) {
            Kit k = with("ticksOneByOne " + n, "1 50.10 'q 18 {ttl=I1}");
            k.publish(0, "", "q", "x");
            k.due("throws", k.tickThrows(n), true);
            k.total(0, 0);
            k.total(6, 1);
            k.ready("q", 1);
        }
        for (int n : new int[] {1, 2, 99, 100}) {
            Kit k = with("ticksOneByOne " + n, "1 50.10 'q 16 {ttl=I100}");
            k.publish(0, "", "q", "x");
            k.tick(n, n);
            k.total(0, n);
            k.ready("q", n < 100 ? 1 : 0);
        }
        Kit k = with("the same in one call or many", "1 50.10 'q 16 {ttl=I1,dlx=S}", "1 50.10 'd 16 {}");
        k.publish(0, "", "q", "x");
        k.tick(3, 3);
        k.ready("q", 1);
        k.total(7, 3);
        k.tick(1, 4);
        k.ready("q", 0);
        k.total(7, 4);
    }

    /** EXPIRED ones are DEAD ahead of what connections that are closed give back: that goes with the next tick. */
    private static void expiredAheadOfConnections() {
        for (boolean taken : new boolean[] {false, true}) {
            Kit k = new Kit("expiredAheadOfConnections " + taken);
            k.open(0);
            k.open(1, 1);
            k.openChannel(1, 1);
            k.say(0, "1 50.10 'q 16 {ttl=I1}");
            k.publish(0, "", "q", "x");
            k.say(1, "1 60.70 'q 0");
            k.say(0, taken ? "1 60.20 'q 'c 8" : "0 8");
            k.readAll(1);
            k.tick(1, 1);
            k.connected(1, 0, 5);
            k.queue(0, 1, 1);
            k.tick(1, 2);
            k.connected(1, 0, 0);
            k.total(7, 0);
            k.queue(0, taken ? 1 : 0, 1);
            k.hear(0, taken ? new String[] {"1 60.60 'c 1:4 1 ' 'q", "1 H 60:2 1:4 0:2", "1 B x"} : new String[0]);
            k.tick(1, 3);
            k.total(7, taken ? 0 : 1);
        }
    }

    /** Confirms are sent before the clock grows, so that a HEARTBEAT of 1 is due in the same tick. */
    private static void confirmsAheadOfTheClock() {
        Kit k = new Kit("confirmsAheadOfTheClock");
        k.open(0, 1);
        k.openChannel(0, 1);
        k.say(0, "1 50.10 'q 18 {ttl=I1,dlx=S,dlk=Sd}", "1 50.10 'd 16 {}", "1 60.20 'd 'c 8", "1 85.10 1");
        k.publish(0, "", "q", "2:2 1", "x");
        k.readAll(0);
        k.tick(1, 1);
        k.hear(0, "1 60.80 1:4 0", "0 8", "1 60.60 'c 1:4 0 ' 'd", "1 H 60:2 1:4 2:2 1", "1 B x");
    }
}
