/** Promise 9: what a crash leaves. */
public final class CrashTest {
    public static void main(String[] args) {
        wrongArguments();
        onlyWhatIsSafe();
        recordByRecord();
        whatIsKept();
        connectionsAreClosed();
        messagesComeAgain();
        orderOfMessages();
        deathsStay();
        moreThanMax();
        goneWithItsQueue();
        crashUponCrash();
        numbersGoOn();
        Kit.end();
    }

    private static void wrongArguments() {
        Kit k = new Kit("wrongArguments");
        k.open(0);
        k.due("crash(-1)", k.crashThrows(-1), true);
        k.connected(0, 0, 5);
        for (int i = 0; i < 200; i++) {
            k.crash(i, 0);
        }
        k.hall.connect(0);
        k.due("the 201st", k.crashThrows(0), true);
        k.connected(0, 0, 1);
    }

    private static void onlyWhatIsSafe() {
        Kit k = new Kit("onlyWhatIsSafe");
        k.open(0);
        k.say(0, "1 50.10 'a 18 {}");
        k.tick(1, 1);
        k.say(0, "1 50.10 'b 18 {}");
        k.crash(0, 0);
        k.total(2, 1);
        k.total(6, 0);
        k.queue(0, 100, 'a');
    }

    /** What is there when the first n of nine records are safe. */
    private static void recordByRecord() {
        int[][] due = {
            // exchanges, queues, bindings, messages
            {0, 0, 0, 0}, {1, 0, 0, 0}, {1, 1, 0, 0}, {1, 1, 1, 0}, {1, 1, 1, 1}, {1, 1, 1, 2}, {1, 1, 1, 1},
            {1, 1, 0, 1}, {0, 1, 0, 1}, {0, 0, 0, 0}, {0, 0, 0, 0},
        };
        for (int n = 0; n < due.length; n++) {
            Kit k = new Kit("recordByRecord " + n);
            k.open(0);
            k.say(0, "1 40.10 'e 'direct 22 {}", "1 50.10 'q 18 {max=I1}", "1 50.20 'q 'e ' 1 {}");
            k.publish(0, "", "q", "2:2 1", "a");
            k.publish(0, "", "q", "2:2 1", "b");
            k.say(0, "1 50.50 'q 'e ' {}", "1 50.40 'q 4");
            k.total(6, 9);
            k.crash(n, due[n][3]);
            k.total(3, due[n][0]);
            k.total(2, due[n][1]);
            k.total(4, due[n][2]);
            k.total(1, due[n][3]);
            k.total(6, 0);
        }
    }

    private static void whatIsKept() {
        Kit k = new Kit("whatIsKept");
        k.open(0);
        k.say(0, "1 40.10 'e 'topic 30 {alt=Sf}", "1 40.10 'g 'fanout 16 {}", "1 40.10 'f 'fanout 18 {}");
        k.say(0, "1 50.10 'loose 16 {}", "1 50.10 'kept 26 {max=I9,ttl=I50,pri=I3,dlx=Sf,dlk=Sk}", "1 50.10 'own 22 {}");
        k.say(0, "1 50.20 'loose 'e ' 1 {}", "1 50.20 'kept 'e 'x 1 {}", "1 50.20 'kept 'g ' 1 {}", "1 50.20 'kept 'f ' 1 {a=I1}", "1 50.20 'own 'f ' 1 {}");
        k.publish(0, "", "kept", "2:2 1", "p");
        k.publish(0, "", "kept", "n");
        k.publish(0, "", "loose", "2:2 1", "l");
        k.total(1, 3);
        k.tick(1, 1);
        k.crash(0, 1);
        k.total(3, 2);
        k.total(2, 1);
        k.total(4, 2);
        k.exchange(0, 100, 'e');
        k.exchange(0, 0, 2);
        k.exchange(0, 1, 14);
        k.exchange(0, 2, 1);
        k.exchange(1, 100, 'f');
        k.queue(0, 3, 10);
        k.queue(0, 5, 2);
        k.open(0);
        k.ask(0, "1 40.10 'e 'topic 14 {alt=Sf}", "1 40.11");
        k.ask(0, "1 50.10 'kept 10 {max=I9,ttl=I50,pri=I3,dlx=Sf,dlk=Sk}", "1 50.11 'kept 1:4 0:4");
        k.ask(0, "1 50.20 'kept 'f ' 0 {a=I1}", "1 50.21");
        k.total(4, 2);
    }

    private static void connectionsAreClosed() {
        Kit k = new Kit("connectionsAreClosed");
        k.open(0, 9);
        k.openChannel(0, 1);
        k.hall.connect(1);
        k.say(0, "1 50.10 'own 20 {}", "1 50.10 'q 18 {}", "1 60.20 'q 'a 0", "1 90.10");
        k.publish(0, "", "q", "x");
        k.sendBytes(0, new byte[] {1, 0, 1});
        k.hall.type(82, 1);
        int waiting = k.hall.waiting(0);
        k.crash(0, 0);
        k.due("what waits stays", k.hall.waiting(0), waiting);
        k.connected(0, 0, 0);
        k.connected(1, 0, 0);
        k.connected(0, 1, 9);
        k.connected(0, 2, 0);
        k.connected(0, 3, 0);
        k.total(5, 0);
        for (int what = 0; what <= 6; what++) {
            k.channel(0, 1, what, 0);
        }
        k.due("cut", k.hall.cut(0), false);
        k.hall.connect(1);
        k.hall.type(0x4C4159L << 32 | 0x0901, 7);
        k.due("the tape stays", k.hall.send(1), 2);
    }

    private static void messagesComeAgain() {
        Kit k = new Kit("messagesComeAgain");
        k.open(0);
        k.say(0, "1 50.10 'q 18 {ttl=I9}");
        k.publish(0, "", "q", "6:2 1 3:4", "a");
        k.publish(0, "", "q", "2:2 1", "b");
        k.say(0, "1 60.70 'q 0", "1 60.70 'q 0");
        k.tick(2, 2);
        k.say(0, "1 60.80 2:4 0");
        k.total(1, 1);
        k.crash(0, 2);
        k.ready("q", 2);
        k.queue(0, 1, 0);
        k.tick(2, 4);
        k.ready("q", 2);
        k.open(0);
        k.ask(0, "1 60.70 'q 0", "1 60.71 1:4 1 ' 'q 1:4", "1 H 60:2 1:4 6:2 1 3:4", "1 B a");
        k.say(0, "1 60.90 1:4 1");
        k.tick(1, 5);
        k.ready("q", 1);
        k.total(7, 1);
        k.tick(5, 10);
        k.ready("q", 1);
        k.tick(1, 11);
        k.ready("q", 0);
    }

    private static void orderOfMessages() {
        Kit k = new Kit("orderOfMessages");
        k.open(0);
        k.say(0, "1 50.10 'q 18 {pri=I9}");
        k.publish(0, "", "q", "2:2 1", "a");
        k.publish(0, "", "q", "2:2 1", "b");
        k.publish(0, "", "q", "3:2 4 1", "c");
        k.say(0, "1 60.70 'q 0");
        k.tick(1, 1);
        k.crash(0, 3);
        k.open(0);
        k.ask(0, "1 60.70 'q 1", "1 60.71 1:4 1 ' 'q 2:4", "1 H 60:2 1:4 3:2 4 1", "1 B c");
        k.ask(0, "1 60.70 'q 1", "1 60.71 2:4 1 ' 'q 1:4", "1 H 60:2 1:4 2:2 1", "1 B a");
        k.ask(0, "1 60.70 'q 1", "1 60.71 3:4 1 ' 'q 0:4", "1 H 60:2 1:4 2:2 1", "1 B b");
    }

    private static void deathsStay() {
        Kit k = new Kit("deathsStay");
        k.open(0);
        k.say(0, "1 50.10 'q 18 {ttl=I1,dlx=S}");
        k.publish(0, "", "q", "2:2 1", "x");
        k.tick(2, 2);
        k.ready("q", 1);
        k.crash(9, 1);
        k.tick(1, 3);
        k.ready("q", 1);
        k.tick(1, 4);
        k.ready("q", 0);
        k.total(7, 4);
    }

    private static void moreThanMax() {
        Kit k = new Kit("moreThanMax");
        k.open(0);
        k.say(0, "1 50.10 'q 18 {max=I1}");
        k.publish(0, "", "q", "2:2 1", "a");
        k.publish(0, "", "q", "2:2 1", "b");
        k.crash(3, 2);
        k.ready("q", 2);
        k.open(0);
        k.publish(0, "", "q", "2:2 1", "c");
        k.ready("q", 1);
        k.total(7, 3);
        k.total(6, 3);
        k.crash(2, 2);
        k.ready("q", 2);
    }

    private static void goneWithItsQueue() {
        Kit k = new Kit("goneWithItsQueue");
        k.open(0);
        k.say(0, "1 50.10 'q 18 {}", "1 40.10 'e 'fanout 22 {}", "1 50.20 'q 'e ' 1 {}");
        k.publish(0, "", "q", "2:2 1", "a");
        k.tick(1, 1);
        k.say(0, "1 60.70 'q 0", "1 50.40 'q 4", "1 60.80 1:4 0");
        k.total(6, 2);
        k.total(3, 0);
        k.crash(1, 0);
        k.total(2, 0);
        k.total(3, 1);
        k.total(4, 0);
        k = new Kit("back with its queue");
        k.open(0);
        k.say(0, "1 50.10 'q 18 {}", "1 40.10 'e 'fanout 22 {}", "1 50.20 'q 'e ' 1 {}");
        k.publish(0, "", "q", "2:2 1", "a");
        k.tick(1, 1);
        k.say(0, "1 60.70 'q 0", "1 50.40 'q 4", "1 60.80 1:4 0");
        k.crash(0, 1);
        k.ready("q", 1);
        k.queue(0, 5, 1);
        k.exchange(0, 2, 1);
        k.open(0);
        k.say(0, "1 60.70 'q 0", "1 60.90 1:4 1");
        k.readAll(0);
        k.ready("q", 1);
        k.ask(0, "1 60.70 'q 1", "1 60.71 2:4 1 ' 'q 0:4", "1 H 60:2 1:4 2:2 1", "1 B a");
        k.total(6, 1);
    }

    private static void crashUponCrash() {
        Kit k = new Kit("crashUponCrash");
        k.open(0);
        k.say(0, "1 50.10 'q 18 {}");
        k.publish(0, "", "q", "2:2 1", "a");
        k.publish(0, "", "q", "2:2 1", "b");
        k.crash(2, 1);
        k.open(0);
        k.say(0, "1 50.30 'q 1");
        k.total(6, 1);
        k.crash(0, 1);
        k.open(0);
        k.say(0, "1 50.30 'q 1");
        k.crash(1, 0);
        k.crash(0, 0);
        k.total(2, 1);
    }

    private static void numbersGoOn() {
        Kit k = new Kit("numbersGoOn");
        k.open(0);
        k.say(0, "1 50.10 'q 18 {pri=I1}", "1 50.10 'd 16 {ttl=I1}");
        k.publish(0, "", "q", "2:2 1", "a");
        k.publish(0, "", "d", "z");
        k.tick(1, 1);
        k.total(7, 1);
        k.crash(0, 1);
        k.total(0, 1);
        k.total(7, 1);
        k.open(0);
        k.publish(0, "", "q", "2:2 1", "b");
        k.ask(0, "1 60.70 'q 1", "1 60.71 1:4 1 ' 'q 1:4", "1 H 60:2 1:4 2:2 1", "1 B a");
        k.ask(0, "1 60.70 'q 1", "1 60.71 2:4 0 ' 'q 0:4", "1 H 60:2 1:4 2:2 1", "1 B b");
    }
}
