/** Promises 8 and 14: ticks, times and totals. */
public final class TickTest {
    public static void main(String[] args) {
        clock();
        timeToLive();
        expiration();
        expiredInOrder();
        unackedDoesNotExpire();
        expiredIsDelivered();
        recordsAreSafe();
        confirmDoesNotFit();
        heartbeatDoesNotFit();
        heartbeatsAndConfirms();
        totals();
        Kit.end();
    }

    private static void clock() {
        Kit k = new Kit("clock");
        k.due("tick(0)", k.tickThrows(0), true);
        k.due("tick(-1)", k.tickThrows(-1), true);
        k.due("tick(101)", k.tickThrows(101), true);
        k.due("tick(MIN)", k.tickThrows(Integer.MIN_VALUE), true);
        k.total(0, 0);
        k.tick(1, 1);
        k.tick(100, 101);
        k.total(0, 101);
    }

    private static void timeToLive() {
        Kit k = new Kit("timeToLive");
        k.open(0);
        k.say(0, "1 50.10 'q 16 {ttl=I3}");
        k.publish(0, "", "q", "a");
        k.tick(2, 2);
        k.publish(0, "", "q", "b");
        k.ready("q", 2);
        k.tick(1, 3);
        k.ready("q", 1);
        k.total(7, 1);
        k.tick(1, 4);
        k.ready("q", 1);
        k.tick(1, 5);
        k.ready("q", 0);
    }

    private static void expiration() {
        Kit k = new Kit("expiration");
        k.open(0);
        k.say(0, "1 50.10 'q 16 {}", "1 50.10 'r 16 {ttl=I2}");
        k.publish(0, "", "q", "4:2 0:4", "a");
        k.publish(0, "", "q", "4:2 1:4", "b");
        k.publish(0, "", "q", "4:2 3:4", "c");
        k.publish(0, "", "q", "4:2 4294967295:4", "d");
        k.publish(0, "", "r", "4:2 1:4", "e");
        k.publish(0, "", "r", "4:2 9:4", "f");
        k.ready("q", 4);
        k.tick(1, 1);
        k.ready("q", 2);
        k.ready("r", 1);
        k.tick(1, 2);
        k.ready("q", 2);
        k.ready("r", 0);
        k.tick(1, 3);
        k.ready("q", 1);
        k.tick(100, 103);
        k.ready("q", 1);
    }

    private static void expiredInOrder() {
        Kit k = new Kit("expiredInOrder");
        k.open(0);
        k.say(0, "1 50.10 'late 16 {}", "1 50.10 'q 16 {ttl=I1,pri=I9,dlx=S,dlk=Slate}", "1 50.10 'r 16 {ttl=I1,dlx=S,dlk=Slate}");
        k.publish(0, "", "r", "1");
        k.publish(0, "", "q", "2");
        k.publish(0, "", "q", "1:2 5", "3");
        k.tick(1, 1);
        k.ask(0, "1 60.70 'late 1", "1 60.71 1:4 0 ' 'late 2:4", "1 H 60:2 1:4 1:2 5", "1 B 3");
        k.ask(0, "1 60.70 'late 1", "1 60.71 2:4 0 ' 'late 1:4", "1 H 60:2 1:4 0:2", "1 B 2");
        k.ask(0, "1 60.70 'late 1", "1 60.71 3:4 0 ' 'late 0:4", "1 H 60:2 1:4 0:2", "1 B 1");
    }

    private static void unackedDoesNotExpire() {
        Kit k = new Kit("unackedDoesNotExpire");
        k.open(0);
        k.say(0, "1 50.10 'q 16 {ttl=I2}");
        k.publish(0, "", "q", "a");
        k.say(0, "1 60.70 'q 0");
        k.tick(5, 5);
        k.queue(0, 1, 1);
        k.say(0, "1 60.90 1:4 1");
        k.ready("q", 1);
        k.tick(1, 6);
        k.ready("q", 0);
        k.total(7, 1);
    }

    private static void expiredIsDelivered() {
        Kit k = new Kit("expiredIsDelivered");
        k.open(0);
        k.say(0, "1 50.10 'q 16 {ttl=I2,dlx=S,dlk=Sd}", "1 50.10 'd 16 {ttl=I1}", "1 60.20 'd 'a 8");
        k.publish(0, "", "q", "4:2 9:4", "x");
        k.tick(2, 2);
        k.hear(0, "1 60.60 'a 1:4 0 ' 'd", "1 H 60:2 1:4 0:2", "1 B x");
    }

    private static void recordsAreSafe() {
        Kit k = new Kit("recordsAreSafe");
        k.open(0);
        k.say(0, "1 40.10 'e 'direct 18 {}", "1 40.10 'x 'direct 16 {}", "1 50.10 'q 18 {}", "1 50.10 'l 16 {}", "1 50.10 'own 22 {}");
        k.total(6, 2);
        k.say(0, "1 50.20 'q 'e ' 1 {}", "1 50.20 'q 'x ' 1 {}", "1 50.20 'l 'e ' 1 {}", "1 50.20 'own 'e ' 1 {}");
        k.total(6, 3);
        k.tick(1, 1);
        k.total(6, 0);
        k.publish(0, "e", "", "2:2 1", "a");
        k.total(1, 3);
        k.total(6, 1);
        k.say(0, "1 50.50 'q 'e ' {}");
        k.total(6, 2);
        k.say(0, "1 40.20 'e 2", "1 40.20 'x 2", "1 50.40 'q 4", "1 50.40 'l 4", "1 50.40 'own 4");
        k.total(6, 4);
        k.tick(1, 2);
        k.total(6, 0);
    }

    private static void confirmDoesNotFit() {
        Kit k = new Kit("confirmDoesNotFit");
        k.open(0);
        k.open(1);
        k.say(0, "1 50.10 'q 18 {}", "1 85.10 1");
        k.say(1, "1 85.10 1");
        k.publish(0, "", "q", "2:2 1", "a");
        k.publish(1, "", "q", "2:2 1", "b");
        k.stuff(0, 8);
        k.tick(1, 1);
        k.connected(0, 0, 0);
        k.due("waiting", k.hall.waiting(0), 4992);
        k.hear(1, "1 60.80 1:4 0");
        k = new Kit("what a confirm that does not fit sets free expires with this tick");
        k.open(0);
        k.say(0, "1 50.10 'q 18 {ttl=I1}", "1 85.10 1");
        k.publish(0, "", "q", "2:2 1", "a");
        k.say(0, "1 60.70 'q 0");
        k.readAll(0);
        k.stuff(0, 8);
        k.connected(0, 0, 5);
        k.queue(0, 1, 1);
        k.tick(1, 1);
        k.connected(0, 0, 0);
        k.ready("q", 0);
        k.total(7, 1);
    }

    private static void heartbeatDoesNotFit() {
        Kit k = new Kit("heartbeatDoesNotFit");
        k.open(0, 2);
        k.openChannel(0, 1);
        k.stuff(0, 8);
        k.tick(2, 2);
        k.connected(0, 0, 5);
        k.due("a heartbeat still fits", k.hall.waiting(0), 5000);
        k.sendBytes(0, new byte[] {8});
        k.tick(1, 3);
        k.connected(0, 0, 5);
        k.tick(1, 4);
        k.connected(0, 0, 0);
        k.due("waiting", k.hall.waiting(0), 5000);
    }

    private static void heartbeatsAndConfirms() {
        Kit k = new Kit("heartbeatsAndConfirms");
        k.open(0, 4);
        k.openChannel(0, 1);
        k.say(0, "1 50.10 'q 18 {}", "1 85.10 1");
        k.tick(3, 3);
        k.publish(0, "", "q", "2:2 1", "a");
        k.tick(1, 4);
        k.hear(0, "1 60.80 1:4 0");
        k.tick(2, 6);
        k.hear(0);
        k.tick(1, 7);
        k.hear(0, "0 8");
    }

    private static void totals() {
        Kit k = new Kit("totals");
        k.total(-1, -1);
        k.total(8, -1);
        k.total(Integer.MAX_VALUE, -1);
        k.open(0);
        k.say(0, "1 40.10 'e 'direct 16 {}", "1 50.10 'q 18 {max=I1}", "1 50.20 'q 'e 'k 1 {}", "1 60.20 'q 'c 8");
        k.publish(0, "e", "k", "a");
        k.publish(0, "e", "k", "b");
        k.say(0, "1 20.20 0");
        k.publish(0, "e", "k", "c");
        k.publish(0, "e", "k", "d");
        k.total(0, 0);
        k.total(1, 3);
        k.total(2, 1);
        k.total(3, 1);
        k.total(4, 1);
        k.total(5, 1);
        k.total(6, 1);
        k.total(7, 1);
    }
}
