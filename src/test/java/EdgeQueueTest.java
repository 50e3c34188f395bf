/** The edges of exchanges, queues and bindings: their names, limits, bits, arguments and ends. */
public final class EdgeQueueTest {
    private static final String[] KINDS = {"direct", "fanout", "topic", "headers"};

    public static void main(String[] args) {
        twelveExchanges();
        kindsOfExchanges();
        passiveExchange();
        orderOfExchangeErrors();
        otherExchange();
        alternateOrNone();
        deleteExchange();
        autoDeleteExchange();
        autoDeleteByQueueInOrder();
        exchangesInOrder();
        twelveQueues();
        orderOfQueueErrors();
        generatedNumbers();
        numbersGoUpOnlyWithQueues();
        emptyName();
        emptyNameIsOfTheChannel();
        errorsOfQueuesInAllMethods();
        passiveQueue();
        otherQueue();
        wrongArguments();
        argumentsAtTheirEdges();
        declareTells();
        fortyBindings();
        orderOfBindingErrors();
        unbind();
        purge();
        deleteIfUnused();
        deleteIfEmpty();
        deleteTells();
        autoDeleteQueue();
        autoDeleteAndCrash();
        queuesInOrder();
        whatOfQueue();
        whatOfExchange();
        Kit.end();
    }

    private static Kit fresh(String name) {
        Kit k = new Kit(name);
        k.open(0);
        return k;
    }

    /** At most 12 besides the default one. */
    private static void twelveExchanges() {
        Kit k = fresh("twelveExchanges");
        for (int i = 1; i <= 12; i++) {
            k.ask(0, "1 40.10 'e" + i + " 'fanout 0 {}", "1 40.11");
            k.total(3, i);
        }
        k.ask(0, "1 40.10 'e1 'fanout 0 {}", "1 40.11");
        k.ask(0, "1 40.10 ' ' 1 {}", "1 40.11");
        k.soft(0, 404, 40, 10, "1 40.10 'e13 'fanout 1 {}");
        k.soft(0, 406, 40, 10, "1 40.10 'e12 'direct 0 {}");
        k.soft(0, 403, 40, 10, "1 40.10 ' 'fanout 0 {}");
        k.hard(0, 506, 40, 10, "1 40.10 'e13 'fanout 0 {}");
        k.total(3, 12);
        k.sayDue(0, 0, "0 10.51");
        k.open(0);
        k.ask(0, "1 40.20 'e5 0", "1 40.21");
        k.ask(0, "1 40.10 'e13 'fanout 0 {}", "1 40.11");
        k.total(3, 12);
        k.hard(0, 503, 40, 10, "1 40.10 'e14 'other 0 {}");
    }

    private static void kindsOfExchanges() {
        Kit k = fresh("kindsOfExchanges");
        for (int i = 0; i < 4; i++) {
            k.ask(0, "1 40.10 'e" + i + " '" + KINDS[i] + " 0 {}", "1 40.11");
            k.exchange(i, 0, i);
        }
        for (String kind : new String[] {"", "Direct", "direc", "directs", "fanOut", "topic\0", "header", "FANOUT"}) {
            k = fresh("no kind " + kind);
            k.hard(0, 503, 40, 10, "1 40.10 'e '" + kind + " 0 {}");
            k.total(3, 0);
        }
    }

    /** Passive: 404 if there is none; the default one is there; nothing else is looked at. */
    private static void passiveExchange() {
        Kit k = fresh("passiveExchange");
        k.say(0, "1 40.10 'e 'topic 18 {alt=Sx}");
        k.ask(0, "1 40.10 'e 'fanout 1 {}", "1 40.11");
        k.ask(0, "1 40.10 'e 'nonsense 15 {alt=Sy}", "1 40.11");
        k.ask(0, "1 40.10 'e ' 17 {}");
        k.ask(0, "1 40.10 ' 'nonsense 1 {}", "1 40.11");
        k.ask(0, "1 40.10 ' ' 31 {}");
        k.soft(0, 404, 40, 10, "1 40.10 'E 'topic 3 {alt=Sx}");
        k.soft(0, 404, 40, 10, "1 40.10 'x 'topic 17 {}");
        k.total(3, 1);
        k.exchange(0, 0, 2);
        k.exchange(0, 1, 2);
    }

    private static void orderOfExchangeErrors() {
        Kit k = fresh("orderOfExchangeErrors");
        k.say(0, "1 40.10 'e 'direct 16 {}");
        k.soft(0, 403, 40, 10, "1 40.10 ' 'nonsense 2 {alt=Sx}");
        k.hard(0, 503, 40, 10, "1 40.10 'e 'nonsense 2 {alt=Sx}");
        k.total(3, 1);
    }

    /** 406 if kind, one of the bits 2, 4, 8 or the ALTERNATE is another. */
    private static void otherExchange() {
        for (int bits = 0; bits < 16; bits += 2) {
            Kit k = fresh("otherExchange " + bits);
            k.ask(0, "1 40.10 'e 'topic " + bits + " {alt=Sx}", "1 40.11");
            k.exchange(0, 1, bits);
            k.ask(0, "1 40.10 'e 'topic " + bits + " {alt=Sx}", "1 40.11");
            for (int bit = 2; bit <= 8; bit *= 2) {
                k.soft(0, 406, 40, 10, "1 40.10 'e 'topic " + (bits ^ bit) + " {alt=Sx}");
            }
            k.soft(0, 406, 40, 10, "1 40.10 'e 'headers " + bits + " {alt=Sx}");
            k.soft(0, 406, 40, 10, "1 40.10 'e 'topic " + bits + " {alt=SX}");
            k.total(3, 1);
            k.total(6, bits / 2 % 2);
        }
    }

    /** ALTERNATE: none if it is empty, or of another kind. */
    private static void alternateOrNone() {
        Kit k = fresh("alternateOrNone");
        k.ask(0, "1 40.10 'e 'topic 0 {}", "1 40.11");
        for (String none : new String[] {"alt=S", "alt=I1", "alt=t1", "Alt=Sx", "al=Sx", "altx=Sx", "alt=Sx,alt=S"}) {
            k.ask(0, "1 40.10 'e 'topic 0 {" + none + "}", "1 40.11");
        }
        k.soft(0, 406, 40, 10, "1 40.10 'e 'topic 0 {alt=Sx}");
        k.ask(0, "1 40.10 'f 'topic 0 {alt=S" + Kit.repeat("x", 40) + "}", "1 40.11");
        k.soft(0, 406, 40, 10, "1 40.10 'f 'topic 0 {alt=S}");
        k.ask(0, "1 40.10 'f 'topic 0 {other=I1,alt=S" + Kit.repeat("x", 40) + "}", "1 40.11");
    }

    private static void deleteExchange() {
        Kit k = fresh("deleteExchange");
        k.say(0, "1 50.10 'q 16 {}", "1 40.10 'a 'direct 16 {}", "1 40.10 'b 'direct 16 {}", "1 50.20 'q 'a '1 1 {}", "1 50.20 'q 'a '2 1 {}", "1 50.20 'q 'b '1 1 {}");
        k.soft(0, 403, 40, 20, "1 40.20 ' 1");
        k.soft(0, 404, 40, 20, "1 40.20 'c 1");
        k.soft(0, 406, 40, 20, "1 40.20 'a 1");
        k.soft(0, 406, 40, 20, "1 40.20 'a 3");
        k.say(0, "1 50.50 'q 'a '1 {}");
        k.readAll(0);
        k.soft(0, 406, 40, 20, "1 40.20 'a 1");
        k.say(0, "1 50.50 'q 'a '2 {}");
        k.readAll(0);
        k.ask(0, "1 40.20 'a 1", "1 40.21");
        k.soft(0, 404, 40, 20, "1 40.20 'a 0");
        k.total(3, 1);
        k.total(4, 1);
        k.ask(0, "1 40.20 'b 2");
        k.total(3, 0);
        k.total(4, 0);
        k.queue(0, 5, 0);
        k = fresh("its own bindings are gone, wherever they stand among others");
        k.say(0, "1 50.10 'q 16 {}", "1 40.10 'a 'direct 16 {}", "1 40.10 'b 'direct 16 {}");
        k.say(0, "1 50.20 'q 'a '1 1 {}", "1 50.20 'q 'b '1 1 {}", "1 50.20 'q 'a '2 1 {}", "1 50.20 'q 'b '2 1 {}", "1 50.20 'q 'b '3 1 {}", "1 50.20 'q 'a '3 1 {}");
        k.ask(0, "1 40.20 'b 0", "1 40.21");
        k.total(4, 3);
        k.queue(0, 5, 3);
        k.exchange(0, 2, 3);
    }

    /** An AUTO-DELETE one is deleted when its last binding goes, by whatever; not ahead of that, nor if it had none. */
    private static void autoDeleteExchange() {
        String[] ends = {"1 50.50 'q 'e 'b {}", "1 50.40 'q 4", "1 60.30 'c 1", "1 20.40 0:2 ' 0:2 0:2", "0 10.50 0:2 ' 0:2 0:2"};
        for (int i = 0; i < ends.length; i++) {
            Kit k = fresh("autoDeleteExchange " + ends[i]);
            k.say(0, "1 40.10 'e 'direct 20 {}", "1 50.10 'q " + (i < 2 ? 16 : i < 4 ? 24 : 20) + " {}", "1 60.20 'q 'c 8");
            k.say(0, "1 50.50 'q 'e 'a {}");
            k.total(3, 1);
            k.say(0, "1 50.20 'q 'e 'a 1 {}", "1 50.20 'q 'e 'b 1 {}", "1 50.50 'q 'e 'c {}");
            k.total(4, 2);
            k.say(0, "1 50.50 'q 'e 'a {}");
            k.total(3, 1);
            k.total(4, 1);
            k.say(0, ends[i]);
            k.total(3, 0);
            k.total(4, 0);
        }
        Kit k = fresh("a queue without bindings takes none along");
        k.say(0, "1 40.10 'e 'direct 20 {}", "1 50.10 'q 16 {}", "1 50.10 'r 16 {}", "1 50.40 'q 4");
        k.total(3, 1);
        k.say(0, "1 50.20 'r 'e ' 1 {}", "1 50.10 'q 16 {}", "1 50.20 'q 'e ' 1 {}", "1 50.40 'q 4");
        k.total(3, 1);
        k.total(4, 1);
    }

    /** Its RECORD first, then exchange by exchange. */
    private static void autoDeleteByQueueInOrder() {
        for (int n = 0; n <= 4; n++) {
            Kit k = fresh("autoDeleteByQueueInOrder " + n);
            k.say(0, "1 40.10 'a 'direct 22 {}", "1 40.10 'b 'direct 22 {}", "1 40.10 'c 'direct 22 {}", "1 50.10 'q 18 {}");
            k.say(0, "1 50.20 'q 'c ' 1 {}", "1 50.20 'q 'b ' 1 {}", "1 50.20 'q 'a ' 1 {}");
            k.tick(1, 1);
            k.say(0, "1 50.40 'q 4");
            k.total(6, 4);
            k.total(3, 0);
            k.crash(n, 0);
            k.total(2, n == 0 ? 1 : 0);
            k.total(3, n == 0 ? 3 : 4 - n);
            k.total(4, n == 0 ? 3 : 0);
            k.exchange(0, 100, n < 2 ? 'a' : n == 2 ? 'b' : n == 3 ? 'c' : -1);
        }
    }

    private static void exchangesInOrder() {
        Kit k = fresh("exchangesInOrder");
        k.say(0, "1 40.10 'a 'direct 16 {}", "1 40.10 'b 'fanout 16 {}", "1 40.10 'c 'topic 16 {}", "1 40.20 'a 2", "1 40.10 'a 'headers 16 {}");
        k.exchange(0, 100, 'b');
        k.exchange(1, 100, 'c');
        k.exchange(2, 100, 'a');
        k.exchange(2, 0, 3);
        k.exchange(3, 0, -1);
    }

    /** QUEUES, at most 12. */
    private static void twelveQueues() {
        Kit k = fresh("twelveQueues");
        for (int i = 1; i <= 12; i++) {
            k.ask(0, "1 50.10 'q" + i + " 0 {}", "1 50.11 'q" + i + " 0:4 0:4");
            k.total(2, i);
        }
        k.ask(0, "1 50.10 'q1 0 {}", "1 50.11 'q1 0:4 0:4");
        k.soft(0, 404, 50, 10, "1 50.10 'q13 1 {}");
        k.soft(0, 406, 50, 10, "1 50.10 'q13 0 {max=I0}");
        k.soft(0, 406, 50, 10, "1 50.10 'q12 2 {}");
        k.hard(0, 506, 50, 10, "1 50.10 'q13 0 {}");
        k.total(2, 12);
        k.sayDue(0, 0, "0 10.51");
        k.open(0);
        k.ask(0, "1 50.40 'q5 0", "1 50.41 0:4");
        k.ask(0, "1 50.10 'q13 0 {}", "1 50.11 'q13 0:4 0:4");
        k.total(2, 12);
        k.hard(0, 506, 50, 10, "1 50.10 ' 0 {}");
    }

    private static void orderOfQueueErrors() {
        Kit k = fresh("orderOfQueueErrors");
        k.open(1);
        k.say(0, "1 50.10 'own 20 {max=I5}");
        k.soft(1, 406, 50, 10, "1 50.10 'own 0 {max=I51}");
        k.soft(1, 405, 50, 10, "1 50.10 'own 0 {}");
        k.soft(1, 405, 50, 10, "1 50.10 'own 4 {max=I5}");
        k.soft(1, 405, 50, 10, "1 50.10 'own 1 {max=I51}");
        k.soft(0, 406, 50, 10, "1 50.10 'own 4 {max=I51}");
        k.soft(0, 406, 50, 10, "1 50.10 'own 4 {max=I6}");
        k.ask(0, "1 50.10 'own 4 {max=I5}", "1 50.11 'own 0:4 0:4");
        k.ask(0, "1 50.10 'own 1 {max=I51}", "1 50.11 'own 0:4 0:4");
    }

    /** The first from 1 more than the last one of a queue so made on that is no queue's. */
    private static void generatedNumbers() {
        Kit k = fresh("generatedNumbers");
        for (int i = 1; i <= 10; i++) {
            k.say(0, "1 50.10 'gen-" + i + " 16 {}");
        }
        k.ask(0, "1 50.10 ' 0 {}", "1 50.11 'gen-11 0:4 0:4");
        k.say(0, "1 50.40 'gen-11 4", "1 50.40 'gen-3 4");
        k.ask(0, "1 50.10 ' 0 {}", "1 50.11 'gen-12 0:4 0:4");
        k.say(0, "1 50.10 'gen-13 16 {}");
        k.total(2, 11);
        k.ask(0, "1 50.10 ' 0 {}", "1 50.11 'gen-14 0:4 0:4");
        k.hard(0, 506, 50, 10, "1 50.10 ' 0 {}");
        k = fresh("a name that is not just so is none of these");
        k.say(0, "1 50.10 'gen-01 16 {}", "1 50.10 'gen-1x 16 {}", "1 50.10 'Gen-1 16 {}", "1 50.10 'gen- 16 {}", "1 50.10 'gen-0 16 {}");
        k.ask(0, "1 50.10 ' 0 {}", "1 50.11 'gen-1 0:4 0:4");
        k = fresh("a queue that was not so made is none of these");
        k.say(0, "1 50.10 'gen-1 16 {}", "1 50.10 'gen-2 16 {}", "1 50.40 'gen-1 4");
        k.ask(0, "1 50.10 ' 0 {}", "1 50.11 'gen-1 0:4 0:4");
        k.ask(0, "1 50.10 ' 0 {}", "1 50.11 'gen-3 0:4 0:4");
    }

    private static void numbersGoUpOnlyWithQueues() {
        Kit k = fresh("numbersGoUpOnlyWithQueues");
        k.open(1);
        k.soft(0, 406, 50, 10, "1 50.10 ' 0 {ttl=I0}");
        k.soft(0, 404, 50, 10, "1 50.10 ' 1 {}");
        k.ask(0, "1 50.10 ' 0 {}", "1 50.11 'gen-1 0:4 0:4");
        k.ask(0, "1 50.10 'gen-1 0 {}", "1 50.11 'gen-1 0:4 0:4");
        k.ask(1, "1 50.10 ' 4 {}", "1 50.11 'gen-2 0:4 0:4");
        for (int i = 3; i <= 12; i++) {
            k.say(0, "1 50.10 ' 16 {}");
        }
        k.total(2, 12);
        k.hard(0, 506, 50, 10, "1 50.10 ' 0 {}");
        k.ask(1, "1 50.40 'gen-12 0", "1 50.41 0:4");
        k.ask(1, "1 50.10 ' 0 {}", "1 50.11 'gen-13 0:4 0:4");
    }

    private static final String[] USES = {"50.20 @ 'e ' 0 {}", "50.50 @ 'e ' {}", "50.30 @ 0", "50.40 @ 0", "60.20 @ 'c 0", "60.70 @ 0"};
    private static final String[] ANSWERS = {"50.21", "50.51", "50.31 1:4", "50.41 1:4", "60.21 'c", "60.71 1:4 0 ' 'r 0:4"};

    private static int methodOf(String use) {
        return Integer.parseInt(use.split(" ")[0].split("\\.")[1]);
    }

    private static int classOf(String use) {
        return Integer.parseInt(use.split("\\.")[0]);
    }

    /** An empty name stands for the queue that was declared last on this channel, in all METHODS but 50.10. */
    private static void emptyName() {
        for (int i = 0; i < USES.length; i++) {
            for (String declared : new String[] {"1 50.10 'r 16 {}", "1 50.10 'r 17 {}", "1 50.10 'r 1 {}"}) {
                Kit k = fresh("emptyName " + USES[i] + " " + declared);
                k.say(0, "1 40.10 'e 'direct 16 {}", "1 50.10 'r 16 {}", "1 50.10 'q 16 {}", "1 20.20 0");
                k.publish(0, "", "r", "x");
                k.say(0, declared);
                k.readAll(0);
                String[] answers = {"1 " + ANSWERS[i]};
                String[] got = {"1 " + ANSWERS[i], "1 H 60:2 1:4 0:2", "1 B x"};
                k.ask(0, "1 " + USES[i].replace("@", "'"), i == 5 ? got : answers);
            }
        }
    }

    private static void emptyNameIsOfTheChannel() {
        for (String use : USES) {
            Kit k = fresh("emptyNameIsOfTheChannel " + use);
            k.openChannel(0, 2);
            k.say(0, "1 40.10 'e 'direct 16 {}", "2 50.10 'r 16 {}");
            k.soft(0, 404, classOf(use), methodOf(use), "1 " + use.replace("@", "'"));
            k.say(0, "1 50.10 'gone 16 {}", "2 50.40 'gone 4");
            k.soft(0, 404, classOf(use), methodOf(use), "1 " + use.replace("@", "'"));
        }
        Kit k = fresh("it is the name that stands");
        k.say(0, "1 50.10 'r 16 {}", "1 50.40 'r 4");
        k.openChannel(0, 2);
        k.say(0, "2 50.10 'r 18 {}");
        k.ask(0, "1 50.30 ' 0", "1 50.31 0:4");
        k.open(1);
        k.say(0, "1 50.40 'r 4");
        k.say(1, "1 50.10 'r 20 {}");
        k.soft(0, 405, 50, 30, "1 50.30 ' 0");
    }

    private static void errorsOfQueuesInAllMethods() {
        for (String use : USES) {
            Kit k = fresh("errorsOfQueuesInAllMethods " + use);
            k.open(1);
            k.say(0, "1 40.10 'e 'direct 16 {}", "1 50.10 'own 20 {}", "1 50.10 'all 16 {}");
            k.soft(0, 404, classOf(use), methodOf(use), "1 " + use.replace("@", "'none"));
            k.soft(0, 404, classOf(use), methodOf(use), "1 " + use.replace("@", "'Own"));
            k.soft(1, 405, classOf(use), methodOf(use), "1 " + use.replace("@", "'own"));
            k.sayDue(0, 5, "1 " + use.replace("@", "'own"));
            k.channel(0, 1, 0, 1);
            k.sayDue(1, 5, "1 " + use.replace("@", "'all"));
            k.channel(1, 1, 0, 1);
            k.hall.cut(0);
            k.readAll(1);
            k.soft(1, 404, classOf(use), methodOf(use), "1 " + use.replace("@", "'own").replace("'c", "'d"));
        }
    }

    private static void passiveQueue() {
        Kit k = fresh("passiveQueue");
        k.open(1);
        k.say(0, "1 50.10 'q 18 {max=I5}", "1 50.10 'own 20 {}");
        k.ask(0, "1 50.10 'q 1 {}", "1 50.11 'q 0:4 0:4");
        k.ask(0, "1 50.10 'q 15 {max=I0,pri=S}", "1 50.11 'q 0:4 0:4");
        k.ask(1, "1 50.10 'q 17 {}");
        k.ask(0, "1 50.10 'own 1 {}", "1 50.11 'own 0:4 0:4");
        k.soft(1, 405, 50, 10, "1 50.10 'own 1 {}");
        k.soft(0, 404, 50, 10, "1 50.10 'Q 1 {}");
        k.soft(0, 404, 50, 10, "1 50.10 'Q 17 {max=I0}");
        k.soft(0, 404, 50, 10, "1 50.10 ' 1 {}");
        k.ask(0, "1 50.10 'q 17 {}");
        k.soft(0, 404, 50, 10, "1 50.10 ' 1 {}");
        k.total(2, 2);
        k.queue(0, 3, 2);
    }

    /** 406 if a bit of 2, 4, 8 or an ARGUMENT is another. */
    private static void otherQueue() {
        for (int bits = 0; bits < 16; bits += 2) {
            Kit k = fresh("otherQueue " + bits);
            k.ask(0, "1 50.10 'q " + bits + " {}", "1 50.11 'q 0:4 0:4");
            k.queue(0, 3, bits);
            k.ask(0, "1 50.10 'q " + bits + " {}", "1 50.11 'q 0:4 0:4");
            k.ask(0, "1 50.10 'q " + (bits | 16) + " {}");
            for (int bit = 2; bit <= 8; bit *= 2) {
                k.soft(0, 406, 50, 10, "1 50.10 'q " + (bits ^ bit) + " {}");
            }
            k.total(2, 1);
            k.total(6, (bits & 6) == 2 ? 1 : 0);
        }
        String[][] others = {
            {"max=I5", "", "max=I4", "max=I6"}, {"ttl=I5", "", "ttl=I4", "ttl=I6"}, {"pri=I5", "", "pri=I0", "pri=I4", "pri=I6"},
            {"dlx=Sa", "", "dlx=S", "dlx=SA", "dlx=Sab"}, {"dlk=Sa", "", "dlk=S", "dlk=SA", "dlk=Sab"}, {"dlx=S", "", "dlx=Sa"}, {"dlk=S", "", "dlk=Sa"},
            {"", "max=I5", "ttl=I5", "pri=I1", "dlx=S", "dlk=S", "dlx=Sa", "dlk=Sa"}, {"pri=I0", "pri=I1"},
        };
        for (String[] row : others) {
            Kit k = fresh("otherQueue of " + row[0]);
            k.ask(0, "1 50.10 'q 0 {" + row[0] + "}", "1 50.11 'q 0:4 0:4");
            k.ask(0, "1 50.10 'q 0 {" + row[0] + "}", "1 50.11 'q 0:4 0:4");
            for (int i = 1; i < row.length; i++) {
                k.soft(0, 406, 50, 10, "1 50.10 'q 0 {" + row[i] + "}");
            }
        }
        Kit k = fresh("pri 0 and none are alike");
        k.say(0, "1 50.10 'a 16 {pri=I0}", "1 50.10 'b 16 {}");
        k.ask(0, "1 50.10 'a 0 {}", "1 50.11 'a 0:4 0:4");
        k.ask(0, "1 50.10 'b 0 {pri=I0}", "1 50.11 'b 0:4 0:4");
    }

    /** Of another kind, or beyond: wrong; ahead of all but passive. */
    private static void wrongArguments() {
        String[] wrong = {"max=I0", "max=I51", "max=I-1", "max=I256", "max=I65537", "max=S5", "max=t5", "ttl=I0", "ttl=I1001", "ttl=I-1", "ttl=S5", "ttl=t5", "pri=I-1",
            "pri=I10", "pri=I256", "pri=S5", "pri=t5", "dlx=I1", "dlx=t1", "dlk=I1", "dlk=t1"};
        for (String argument : wrong) {
            Kit k = fresh("wrongArguments " + argument);
            k.say(0, "1 50.10 'q 16 {}");
            k.soft(0, 406, 50, 10, "1 50.10 'n 0 {" + argument + "}");
            k.soft(0, 406, 50, 10, "1 50.10 'n 16 {max=I5,ttl=I5,pri=I5,dlx=S,dlk=S," + argument + "}");
            k.soft(0, 406, 50, 10, "1 50.10 'q 0 {" + argument + "}");
            k.total(2, 1);
            k.ask(0, "1 50.10 'n 0 {" + argument + "," + argument.substring(0, 3) + "=" + (argument.startsWith("dl") ? "Sx" : "I1") + "}", "1 50.11 'n 0:4 0:4");
        }
    }

    private static void argumentsAtTheirEdges() {
        String[] fine = {"max=I1", "max=I50", "ttl=I1", "ttl=I1000", "pri=I0", "pri=I9", "dlx=S", "dlk=S", "dlx=S" + Kit.repeat("x", 40), "dlk=S" + Kit.repeat("x", 40),
            "Max=I0", "maxi=I0", "ma=I0", "=I0", "x=Sx,y=t0,z=I-1"};
        for (String argument : fine) {
            Kit k = fresh("argumentsAtTheirEdges " + argument);
            k.ask(0, "1 50.10 'n 0 {" + argument + "}", "1 50.11 'n 0:4 0:4");
            k.ask(0, "1 50.10 'n 0 {other=t1," + argument + "}", "1 50.11 'n 0:4 0:4");
        }
    }

    /** 50.11 tells READY messages and consumers. */
    private static void declareTells() {
        Kit k = fresh("declareTells");
        k.openChannel(0, 2);
        k.say(0, "1 50.10 'q 16 {}");
        for (int i = 0; i < 3; i++) {
            k.publish(0, "", "q", "x");
        }
        k.say(0, "1 60.70 'q 0");
        k.readAll(0);
        k.ask(0, "1 50.10 'q 0 {}", "1 50.11 'q 2:4 0:4");
        k.say(0, "2 20.20 0", "2 60.20 'q 'a 8", "2 60.20 'q 'b 8");
        k.readAll(0);
        k.ask(0, "1 50.10 'q 1 {}", "1 50.11 'q 2:4 2:4");
    }

    /** A binding that is alike is there once; 506 if there are 40, of all exchanges and queues. */
    private static void fortyBindings() {
        Kit k = fresh("fortyBindings");
        k.say(0, "1 50.10 'q 16 {}", "1 50.10 'r 16 {}", "1 40.10 'e 'direct 16 {}", "1 40.10 'f 'direct 16 {}");
        for (int i = 0; i < 39; i++) {
            k.say(0, "1 50.20 '" + (i % 2 == 0 ? "q" : "r") + " '" + (i % 3 == 0 ? "e" : "f") + " '" + i + " 1 {}");
        }
        k.total(4, 39);
        k.ask(0, "1 50.20 'q 'e 'last 0 {}", "1 50.21");
        k.total(4, 40);
        k.ask(0, "1 50.20 'q 'e 'last 0 {}", "1 50.21");
        k.ask(0, "1 50.20 'q 'e '0 0 {}", "1 50.21");
        k.total(4, 40);
        k.ask(0, "1 50.50 'q 'e 'none {}", "1 50.51");
        k.ask(0, "1 50.50 'q 'e 'last {}", "1 50.51");
        k.ask(0, "1 50.20 'r 'e 'last 0 {}", "1 50.21");
        k.total(4, 40);
        k.soft(0, 403, 50, 20, "1 50.20 'q ' 'k 0 {}");
        k.hard(0, 506, 50, 20, "1 50.20 'q 'e 'last 1 {}");
        k.total(4, 40);
    }

    /** The queue's errors first, then 403 for the empty exchange, 404 for none. */
    private static void orderOfBindingErrors() {
        for (String method : new String[] {"50.20 @ 0 {}", "50.50 @ {}"}) {
            Kit k = fresh("orderOfBindingErrors " + method);
            k.open(1);
            k.say(0, "1 50.10 'own 20 {}", "1 50.10 'q 16 {}", "1 40.10 'e 'direct 16 {}");
            int number = methodOf(method);
            k.soft(0, 404, 50, number, "1 " + method.replace("@", "'none ' 'k"));
            k.soft(0, 404, 50, number, "1 " + method.replace("@", "'none 'none 'k"));
            k.soft(1, 405, 50, number, "1 " + method.replace("@", "'own ' 'k"));
            k.soft(1, 405, 50, number, "1 " + method.replace("@", "'own 'none 'k"));
            k.soft(1, 403, 50, number, "1 " + method.replace("@", "'q ' 'k"));
            k.soft(1, 404, 50, number, "1 " + method.replace("@", "'q 'none 'k"));
            k.soft(1, 404, 50, number, "1 " + method.replace("@", "'q 'E 'k"));
            k.total(4, 0);
        }
    }

    /** The one that is alike goes: queue, exchange, key, TABLE. */
    private static void unbind() {
        Kit k = fresh("unbind");
        k.say(0, "1 50.10 'q 16 {}", "1 50.10 'r 16 {}", "1 40.10 'e 'direct 16 {}", "1 40.10 'f 'direct 16 {}", "1 50.20 'q 'e 'k 1 {a=I1}");
        for (String other : new String[] {"'r 'e 'k {a=I1}", "'q 'f 'k {a=I1}", "'q 'e 'K {a=I1}", "'q 'e ' {a=I1}", "'q 'e 'k {}", "'q 'e 'k {a=I2}", "'q 'e 'k {a=I1,b=I1}"}) {
            k.ask(0, "1 50.50 " + other, "1 50.51");
            k.total(4, 1);
        }
        k.ask(0, "1 50.50 'q 'e 'k {a=t9,a=I1}", "1 50.51");
        k.total(4, 0);
        k.ask(0, "1 50.50 'q 'e 'k {a=I1}", "1 50.51");
    }

    /** READY messages are gone; what is UNACKED stays. */
    private static void purge() {
        Kit k = fresh("purge");
        k.say(0, "1 50.10 'q 16 {dlx=S,dlk=Sd}", "1 50.10 'd 16 {}");
        k.ask(0, "1 50.30 'q 0", "1 50.31 0:4");
        for (int i = 0; i < 3; i++) {
            k.publish(0, "", "q", "x");
        }
        k.say(0, "1 60.70 'q 0");
        k.readAll(0);
        k.ask(0, "1 50.30 'q 0", "1 50.31 2:4");
        k.ask(0, "1 50.30 'q 0", "1 50.31 0:4");
        k.total(1, 1);
        k.total(7, 0);
        k.channel(0, 1, 1, 1);
        k.ask(0, "1 60.90 1:4 1");
        k.ask(0, "1 50.30 'q 1");
        k.total(1, 0);
    }

    private static void deleteIfUnused() {
        for (int bits : new int[] {1, 3, 5, 7}) {
            Kit k = fresh("deleteIfUnused " + bits);
            k.open(1);
            k.say(0, "1 50.10 'q 16 {}");
            k.say(1, "1 60.20 'q 'c 8");
            k.soft(0, 406, 50, 40, "1 50.40 'q " + bits);
            k.total(2, 1);
            k.say(1, "1 60.30 'c 1");
            k.ask(0, "1 50.40 'q " + bits, (bits & 4) != 0 ? new String[0] : new String[] {"1 50.41 0:4"});
            k.total(2, 0);
        }
        Kit k = fresh("READY ones do not make it used");
        k.say(0, "1 50.10 'q 16 {}");
        k.publish(0, "", "q", "x");
        k.ask(0, "1 50.40 'q 1", "1 50.41 1:4");
    }

    private static void deleteIfEmpty() {
        for (int bits : new int[] {2, 3, 6, 7}) {
            Kit k = fresh("deleteIfEmpty " + bits);
            k.say(0, "1 50.10 'q 16 {}");
            k.publish(0, "", "q", "x");
            k.soft(0, 406, 50, 40, "1 50.40 'q " + bits);
            k.total(2, 1);
            k.say(0, "1 60.70 'q 0");
            k.readAll(0);
            k.queue(0, 1, 1);
            k.ask(0, "1 50.40 'q " + bits, (bits & 4) != 0 ? new String[0] : new String[] {"1 50.41 0:4"});
            k.total(2, 0);
            k.total(1, 0);
        }
        Kit k = fresh("consumers do not make it full");
        k.say(0, "1 50.10 'q 16 {}", "1 60.20 'q 'c 8");
        k.ask(0, "1 50.40 'q 2", "1 60.30 'c 1", "1 50.41 0:4");
    }

    /** 50.41 tells how many were READY; no bit, no condition. */
    private static void deleteTells() {
        for (int bits : new int[] {0, 4}) {
            Kit k = fresh("deleteTells " + bits);
            k.say(0, "1 50.10 'q 16 {}");
            for (int i = 0; i < 3; i++) {
                k.publish(0, "", "q", "x");
            }
            k.say(0, "1 60.70 'q 0", "1 20.20 0", "1 60.20 'q 'c 8");
            k.readAll(0);
            String[] told = {"1 60.30 'c 1", "1 50.41 2:4"};
            k.ask(0, "1 50.40 'q " + bits, bits == 0 ? told : new String[] {told[0]});
            k.channel(0, 1, 1, 1);
            k.total(1, 0);
            k.soft(0, 404, 50, 40, "1 50.40 'q " + bits);
        }
    }

    /** An AUTO-DELETE queue is deleted when its last consumer is cancelled, by whatever; not if it never had one. */
    private static void autoDeleteQueue() {
        String[] ends = {"1 60.30 'b 1", "1 20.40 0:2 ' 0:2 0:2", "1 60.80 99:4 0", "0 10.50 0:2 ' 0:2 0:2", "9 8", ""};
        for (String end : ends) {
            Kit k = fresh("autoDeleteQueue " + end);
            k.openChannel(0, 2);
            k.say(0, "1 50.10 'q 24 {}", "1 50.10 'never 24 {}", "1 50.10 'stays 16 {}", "1 60.20 'stays 'x 8");
            k.total(2, 3);
            k.say(0, "1 60.20 'q 'a 8", "1 60.20 'q 'b 8", "1 60.30 'none 1", "1 60.30 'a 1");
            k.total(2, 3);
            if (end.isEmpty()) {
                k.hall.cut(0);
            } else {
                k.say(0, end);
            }
            k.total(2, 2);
            k.queue(0, 100, 'n');
            k.queue(1, 100, 's');
        }
    }

    /** A CRASH cancels nothing in that sense: the queue is there as the SAFE records made it. */
    private static void autoDeleteAndCrash() {
        Kit k = fresh("autoDeleteAndCrash");
        k.say(0, "1 50.10 'q 26 {}", "1 60.20 'q 'a 8");
        k.crash(1, 0);
        k.total(2, 1);
        k.queue(0, 2, 0);
        k.total(5, 0);
    }

    private static void queuesInOrder() {
        Kit k = fresh("queuesInOrder");
        k.say(0, "1 50.10 'a 16 {}", "1 50.10 'b 16 {}", "1 50.10 'c 16 {}", "1 50.40 'a 4", "1 50.10 'a 16 {}", "1 50.10 'b 16 {}");
        k.queue(0, 100, 'b');
        k.queue(1, 100, 'c');
        k.queue(2, 100, 'a');
        k.queue(3, 0, -1);
    }

    private static final int[] NOT_TOLD = {-1, 98, 99, 101 + 1000, Integer.MAX_VALUE, Integer.MIN_VALUE, -100};

    private static void whatOfQueue() {
        Kit k = fresh("whatOfQueue");
        String name = Kit.repeat("x", 39) + "y";
        k.say(0, "1 50.10 'e 16 {}", "1 50.10 '" + name + " 16 {}");
        for (int what : NOT_TOLD) {
            k.queue(0, what, -1);
        }
        k.queue(0, 5, 0);
        k.queue(0, 6, -1);
        k.queue(0, 100, 'e');
        k.queue(0, 101, -1);
        k.queue(1, 4, 40);
        k.queue(1, 139, 'y');
        k.queue(1, 140, -1);
        for (int place : new int[] {-1, 2, 12, Integer.MAX_VALUE, Integer.MIN_VALUE}) {
            for (int what : new int[] {0, 1, 2, 3, 4, 5, 100}) {
                k.queue(place, what, -1);
            }
        }
    }

    private static void whatOfExchange() {
        Kit k = fresh("whatOfExchange");
        String name = Kit.repeat("x", 39) + "y";
        k.say(0, "1 40.10 'e 'direct 16 {}", "1 40.10 '" + name + " 'direct 16 {}");
        for (int what : NOT_TOLD) {
            k.exchange(0, what, -1);
        }
        k.exchange(0, 3, 1);
        k.exchange(0, 4, -1);
        k.exchange(0, 100, 'e');
        k.exchange(0, 101, -1);
        k.exchange(1, 3, 40);
        k.exchange(1, 139, 'y');
        k.exchange(1, 140, -1);
        for (int place : new int[] {-1, 2, 12, Integer.MAX_VALUE, Integer.MIN_VALUE}) {
            for (int what : new int[] {0, 1, 2, 3, 100}) {
                k.exchange(place, what, -1);
            }
        }
    }
}
