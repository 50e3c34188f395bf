/** The edges of messages: priorities, max, times, deaths, what is FULL, routing and publishing. */
public final class EdgeMessageTest {
    public static void main(String[] args) {
        priorityIsTheLesser();
        priorityWithoutPri();
        requeuedKeepsItsPlace();
        maxOfOneAndFifty();
        maxLooksAtReadyAlone();
        maxWithPriority();
        maxWhenRequeued();
        ttlAtItsEdges();
        expirationAtItsEdges();
        expiredAmongOthers();
        lesserOfBoth();
        expiredWhileUnacked();
        deadWithoutDlx();
        deadWithoutExchange();
        deathsUpToThree();
        deathsOfEachKind();
        buriedAnew();
        buriedBeforeDelivery();
        buriedFirstInFirst();
        threeHundredWait();
        buriedWhenFull();
        threeHundredMessages();
        fullAndRoutedNowhere();
        fullHalfWayIsNoReturn();
        maxMakesRoom();
        numbersUpTo12000();
        numbersHalfWay();
        eachQueueOnce();
        defaultExchange();
        directKeys();
        topicWords();
        headersAllOrAny();
        alternateOnlyIfNone();
        alternateRoundAndRound();
        alternateThatIsNot();
        publishLooksAtOnce();
        publishWhereItWas();
        publishWhereItIsAgain();
        returnOnlyIfMandatory();
        returnTells();
        flagsOfTheHall();
        Kit.end();
    }

    private static Kit with(String name, String... frames) {
        Kit k = new Kit(name);
        k.open(0);
        k.say(0, frames);
        return k;
    }

    private static void publishEmpty(Kit k, String exchange, String key, int times) {
        for (int i = 0; i < times; i++) {
            k.say(0, Kit.publishing(exchange, key, 0, "0:2", ""));
        }
    }

    private static void holds(Kit k, String queue, String bodies) {
        k.readAll(0);
        k.say(0, "3 20.10");
        k.readAll(0);
        StringBuilder got = new StringBuilder();
        for (int i = 0; i < 40 && k.hall.queue(k.place(queue), 0) > 0; i++) {
            k.say(0, "3 60.70 '" + queue + " 1");
            byte[] bytes = k.readAll(0);
            got.append((char) bytes[bytes.length - 2]);
        }
        k.due(queue + " holds " + got + ", due is " + bodies, got.toString().equals(bodies), true);
        k.say(0, "3 20.40 0:2 ' 0:2 0:2");
        k.readAll(0);
    }

    /** The lesser of pri and the message's PRIORITY, then the lesser NUMBER. */
    private static void priorityIsTheLesser() {
        int[] pris = {0, 1, 4, 9};
        int[] told = {0, 3, 9, 0, 2, 4, 255, 10};
        String[] due = {"abcdefgh", "bcefghad", "cfghbead", "cghfbead"};
        for (int i = 0; i < pris.length; i++) {
            Kit k = with("priorityIsTheLesser " + pris[i], "1 50.10 'q 16 {pri=I" + pris[i] + "}");
            for (int j = 0; j < told.length; j++) {
                k.publish(0, "", "q", told[j] == 0 && j == 0 ? "0:2" : "1:2 " + told[j], "" + (char) ('a' + j));
            }
            holds(k, "q", due[i]);
        }
    }

    private static void priorityWithoutPri() {
        Kit k = with("priorityWithoutPri", "1 50.10 'q 16 {}");
        k.publish(0, "", "q", "1:2 1", "a");
        k.publish(0, "", "q", "1:2 9", "b");
        k.publish(0, "", "q", "1:2 255", "c");
        holds(k, "q", "abc");
    }

    /** REQUEUED: READY again with its NUMBER. */
    private static void requeuedKeepsItsPlace() {
        Kit k = with("requeuedKeepsItsPlace", "1 50.10 'q 16 {pri=I9}");
        k.publish(0, "", "q", "1:2 5", "a");
        k.publish(0, "", "q", "1:2 5", "b");
        k.say(0, "1 60.70 'q 0");
        k.publish(0, "", "q", "1:2 5", "c");
        k.publish(0, "", "q", "1:2 6", "d");
        k.say(0, "1 60.90 1:4 1");
        k.readAll(0);
        k.ask(0, "1 60.70 'q 0", "1 60.71 2:4 0 ' 'q 3:4", "1 H 60:2 1:4 1:2 6", "1 B d");
        k.ask(0, "1 60.70 'q 0", "1 60.71 3:4 1 ' 'q 2:4", "1 H 60:2 1:4 1:2 5", "1 B a");
        k.ask(0, "1 60.70 'q 0", "1 60.71 4:4 0 ' 'q 1:4", "1 H 60:2 1:4 1:2 5", "1 B b");
        k.ask(0, "1 60.120 0:4 3");
        holds(k, "q", "dabc");
    }

    /** If READY ones are more than max: at 1 and at 50. */
    private static void maxOfOneAndFifty() {
        Kit k = with("maxOfOneAndFifty", "1 50.10 'one 16 {max=I1}", "1 50.10 'fifty 16 {max=I50}");
        k.publish(0, "", "one", "a");
        k.ready("one", 1);
        k.total(7, 0);
        k.publish(0, "", "one", "b");
        k.ready("one", 1);
        k.total(7, 1);
        holds(k, "one", "b");
        publishEmpty(k, "", "fifty", 49);
        k.ready("fifty", 49);
        publishEmpty(k, "", "fifty", 1);
        k.ready("fifty", 50);
        k.total(7, 1);
        publishEmpty(k, "", "fifty", 1);
        k.ready("fifty", 50);
        k.total(7, 2);
        k.total(1, 50);
    }

    private static void maxLooksAtReadyAlone() {
        Kit k = with("maxLooksAtReadyAlone", "1 50.10 'q 16 {max=I2}");
        for (int i = 0; i < 4; i++) {
            k.publish(0, "", "q", "" + i);
            k.say(0, "1 60.70 'q 0");
        }
        k.publish(0, "", "q", "a");
        k.publish(0, "", "q", "b");
        k.total(7, 0);
        k.total(1, 6);
        k.publish(0, "", "q", "c");
        k.total(7, 1);
        holds(k, "q", "bc");
    }

    /** The first one in order leaves: that of the greatest PRIORITY, even if it has just come. */
    private static void maxWithPriority() {
        Kit k = with("maxWithPriority", "1 50.10 'd 16 {}", "1 50.10 'q 16 {max=I2,pri=I9,dlx=S,dlk=Sd}");
        k.publish(0, "", "q", "1:2 5", "a");
        k.publish(0, "", "q", "1:2 1", "b");
        k.publish(0, "", "q", "1:2 7", "c");
        k.publish(0, "", "q", "0:2", "e");
        k.publish(0, "", "q", "1:2 1", "f");
        holds(k, "d", "cab");
        holds(k, "q", "fe");
    }

    private static void maxWhenRequeued() {
        Kit k = with("maxWhenRequeued", "1 50.10 'd 16 {}", "1 50.10 'q 16 {max=I2,dlx=S,dlk=Sd}");
        for (int i = 0; i < 3; i++) {
            k.publish(0, "", "q", "" + i);
            k.say(0, "1 60.70 'q 0");
        }
        k.say(0, "1 60.90 2:4 1", "1 60.90 3:4 1");
        k.total(7, 0);
        k.say(0, "1 60.90 1:4 1");
        k.total(7, 1);
        holds(k, "d", "0");
        holds(k, "q", "12");
    }

    private static void ttlAtItsEdges() {
        Kit k = with("ttlAtItsEdges", "1 50.10 'a 16 {ttl=I1}", "1 50.10 'b 16 {ttl=I1000}", "1 50.10 'c 16 {}");
        k.tick(7, 7);
        publishEmpty(k, "", "a", 1);
        publishEmpty(k, "", "b", 1);
        publishEmpty(k, "", "c", 1);
        k.ready("a", 1);
        k.tick(1, 8);
        k.ready("a", 0);
        for (int i = 0; i < 9; i++) {
            k.tick(100, 108 + 100 * i);
        }
        k.tick(98, 1006);
        k.ready("b", 1);
        k.total(7, 1);
        k.tick(1, 1007);
        k.ready("b", 0);
        k.total(7, 2);
        k.ready("c", 1);
    }

    /** An EXPIRATION of 0: at the next tick, as with 1. */
    private static void expirationAtItsEdges() {
        Kit k = with("expirationAtItsEdges", "1 50.10 'q 16 {}");
        String[] times = {"0:4", "1:4", "2:4", "2147483647:4", "2147483648:4", "4294967295:4"};
        for (String time : times) {
            k.publish(0, "", "q", "4:2 " + time, "x");
        }
        k.ready("q", 6);
        k.tick(1, 1);
        k.ready("q", 4);
        k.tick(1, 2);
        k.ready("q", 3);
        k.tick(100, 102);
        k.ready("q", 3);
    }

    /** Each of a queue's messages has its own time, wherever it stands. */
    private static void expiredAmongOthers() {
        Kit k = with("expiredAmongOthers", "1 50.10 'd 16 {}", "1 50.10 'q 16 {dlx=S,dlk=Sd}");
        int[] times = {9, 2, 9, 1, 2, 9, 1};
        for (int i = 0; i < times.length; i++) {
            k.publish(0, "", "q", "4:2 " + times[i] + ":4", "" + (char) ('a' + i));
        }
        k.tick(1, 1);
        k.ready("q", 5);
        k.tick(1, 2);
        k.ready("q", 3);
        holds(k, "d", "dgbe");
        holds(k, "q", "acf");
    }

    private static void lesserOfBoth() {
        int[][] rows = {{3, 5, 3}, {5, 3, 3}, {4, 4, 4}, {5, 0, 1}};
        for (int[] row : rows) {
            Kit k = with("lesserOfBoth", "1 50.10 'q 16 {ttl=I" + row[0] + "}");
            k.publish(0, "", "q", "4:2 " + row[1] + ":4", "x");
            if (row[2] > 1) {
                k.tick(row[2] - 1, row[2] - 1);
            }
            k.ready("q", 1);
            k.tick(1, row[2]);
            k.ready("q", 0);
        }
    }

    /** Only READY ones are DEAD by time; an EXPIRED one that is REQUEUED at the next tick, its time counting from its coming. */
    private static void expiredWhileUnacked() {
        Kit k = with("expiredWhileUnacked", "1 50.10 'q 16 {ttl=I3}");
        k.publish(0, "", "q", "a");
        k.publish(0, "", "q", "b");
        k.say(0, "1 60.70 'q 0", "1 60.70 'q 0");
        k.tick(2, 2);
        k.say(0, "1 60.90 2:4 1");
        k.ready("q", 1);
        k.tick(1, 3);
        k.ready("q", 0);
        k.tick(7, 10);
        k.queue(0, 1, 1);
        k.total(7, 1);
        k.say(0, "1 60.90 1:4 1");
        k.ready("q", 1);
        k.tick(1, 11);
        k.ready("q", 0);
        k.total(7, 2);
    }

    private static void deadWithoutDlx() {
        Kit k = with("deadWithoutDlx", "1 50.10 'q 16 {max=I1,ttl=I1,dlk=Sd}", "1 50.10 'd 16 {}");
        publishEmpty(k, "", "q", 2);
        k.total(7, 1);
        k.tick(1, 1);
        k.total(7, 2);
        publishEmpty(k, "", "q", 1);
        k.say(0, "1 60.70 'q 0", "1 60.90 1:4 0");
        k.total(7, 3);
        k.total(1, 0);
    }

    private static void deadWithoutExchange() {
        Kit k = with("deadWithoutExchange", "1 50.10 'q 16 {max=I1,dlx=Se}", "1 50.10 'd 16 {}");
        publishEmpty(k, "", "q", 2);
        k.total(7, 1);
        k.total(1, 1);
        k.say(0, "1 40.10 'e 'fanout 16 {}", "1 50.20 'd 'e ' 1 {}");
        publishEmpty(k, "", "q", 1);
        k.total(7, 2);
        k.ready("d", 1);
    }

    /** It waits if its DEATHS are below 3: the fourth time it is gone. */
    private static void deathsUpToThree() {
        Kit k = with("deathsUpToThree", "1 50.10 'q 18 {dlx=S}");
        publishEmpty(k, "", "q", 1);
        for (int i = 1; i <= 4; i++) {
            k.ready("q", 1);
            k.say(0, "1 60.70 'q 0", "1 60.90 " + i + ":4 0");
            k.total(7, i);
        }
        k.ready("q", 0);
        k.total(1, 0);
    }

    private static void deathsOfEachKind() {
        Kit k = with("deathsOfEachKind", "1 50.10 'd 16 {}", "1 50.10 'q 16 {max=I1,ttl=I2,dlx=S,dlk=Sd}");
        k.publish(0, "", "q", "a");
        k.publish(0, "", "q", "b");
        k.say(0, "1 60.70 'q 0", "1 60.90 1:4 0");
        k.publish(0, "", "q", "c");
        k.say(0, "1 60.70 'q 0", "1 60.120 2:4 0");
        k.publish(0, "", "q", "e");
        k.tick(2, 2);
        k.total(7, 4);
        holds(k, "d", "abce");
    }

    /** Its exchange and key are these then, without EXPIRATION, REDELIVERED not set. */
    private static void buriedAnew() {
        String[][] rows = {
            // dlx and dlk of the queue; exchange and key as told then
            {"dlx=Sf", "f", "q"}, {"dlx=Sf,dlk=Sz", "f", "z"}, {"dlx=Sf,dlk=S", "f", ""}, {"dlx=S,dlk=Sd", "", "d"},
        };
        for (String[] row : rows) {
            Kit k = with("buriedAnew " + row[0], "1 50.10 'd 16 {}", "1 40.10 'f 'fanout 24 {}", "1 50.20 'd 'f ' 1 {}", "1 50.10 'q 16 {" + row[0] + "}");
            k.publish(0, "", "q", "15:2 3 1 99:4 {a=I1}", "x");
            k.say(0, "1 60.70 'q 0", "1 60.90 1:4 1", "1 60.70 'q 0", "1 60.90 2:4 0");
            k.readAll(0);
            k.ask(0, "1 60.70 'd 1", "1 60.71 3:4 0 '" + row[1] + " '" + row[2] + " 0:4", "1 H 60:2 1:4 11:2 3 1 {a=I1}", "1 B x");
        }
        Kit k = with("without EXPIRATION it does not expire", "1 50.10 'd 16 {}", "1 50.10 'q 16 {dlx=S,dlk=Sd}");
        k.publish(0, "", "q", "4:2 1:4", "x");
        k.tick(50, 50);
        k.ready("d", 1);
        k.total(7, 1);
        k = with("its own key leads it nowhere if there is no such queue any more", "1 50.10 'q 16 {dlx=S}");
        k.publish(0, "", "q", "x");
        k.say(0, "1 60.70 'q 0");
        k.say(0, "1 60.90 1:4 0");
        k.ready("q", 1);
    }

    /** DISPATCH: the DEAD that wait are BURIED, all of them, ahead of any DELIVER. */
    private static void buriedBeforeDelivery() {
        Kit k = with("buriedBeforeDelivery", "1 50.10 'a 16 {}", "1 50.10 'q 16 {dlx=S,dlk=Sa}", "1 60.20 'a 'y 8", "1 60.10 1:2 0", "1 60.20 'q 'x 8");
        k.publish(0, "", "q", "1");
        k.publish(0, "", "q", "2");
        k.readAll(0);
        k.ask(0, "1 60.90 1:4 0", "1 60.60 'y 2:4 0 ' 'a", "1 H 60:2 1:4 0:2", "1 B 1", "1 60.60 'x 3:4 0 ' 'q", "1 H 60:2 1:4 0:2", "1 B 2");
        k = with("all of them", "1 50.10 'a 16 {max=I1}", "1 50.10 'q 16 {dlx=S,dlk=Sa}", "1 60.20 'a 'y 8");
        k.publish(0, "", "q", "1");
        k.publish(0, "", "q", "2");
        k.say(0, "1 60.70 'q 0", "1 60.70 'q 0");
        k.readAll(0);
        k.ask(0, "1 60.120 0:4 1", "1 60.60 'y 3:4 0 ' 'a", "1 H 60:2 1:4 0:2", "1 B 2");
        k.total(7, 3);
        k = with("also those that are DEAD by another one's burial", "1 50.10 'a 16 {max=I1,dlx=S,dlk=Sb}", "1 50.10 'b 16 {max=I1}", "1 50.10 'q 16 {dlx=S,dlk=Sa}",
                "1 60.20 'a 'y 8", "1 60.20 'b 'z 8");
        for (int i = 1; i <= 4; i++) {
            k.publish(0, "", "q", "" + i);
            k.say(0, "1 60.70 'q 0");
        }
        k.readAll(0);
        k.ask(0, "1 60.120 0:4 1", "1 60.60 'y 5:4 0 ' 'a", "1 H 60:2 1:4 0:2", "1 B 4", "1 60.60 'z 6:4 0 ' 'b", "1 H 60:2 1:4 0:2", "1 B 3");
        k.total(7, 4 + 3 + 2);
    }

    private static void buriedFirstInFirst() {
        Kit k = with("buriedFirstInFirst", "1 50.10 'd 16 {max=I2,dlx=S,dlk=Se}", "1 50.10 'e 16 {}", "1 50.10 'q 16 {ttl=I1,dlx=S,dlk=Sd}");
        for (int i = 1; i <= 5; i++) {
            k.publish(0, "", "q", "" + i);
        }
        k.tick(1, 1);
        k.total(7, 8);
        holds(k, "e", "123");
        holds(k, "d", "45");
    }

    /** 300 at most wait; one that would be one more is gone: a queue that takes but 50 counts the rest of them as DEAD again. */
    private static void threeHundredWait() {
        for (int more = 2; more <= 4; more++) {
            Kit k = with("threeHundredWait " + more, "1 40.10 'f 'fanout 16 {}", "1 50.10 'd 16 {max=I50}");
            for (int i = 0; i < 11; i++) {
                k.say(0, "1 50.10 'q" + i + " 16 {max=I1,dlx=S,dlk=Sd}", "1 50.20 ' 'f ' 1 {}");
            }
            k.say(0, "1 90.10");
            publishEmpty(k, "f", "", 28);
            publishEmpty(k, "", "q0", more);
            k.say(0, "1 90.20");
            int dead = 27 * 11 + more;
            int buried = Math.min(300, dead);
            k.total(7, dead + buried - 50);
            k.ready("d", 50);
            k.total(1, 61);
        }
    }

    /** BURIED only if the hall is not FULL, in each queue as long as it is not. */
    private static void buriedWhenFull() {
        Kit k = twelve("buriedWhenFull", "");
        publishEmpty(k, "f", "", 24);
        publishEmpty(k, "", "q0", 11);
        k.total(1, 299);
        k.say(0, "1 50.40 'q11 4", "1 50.10 'own 16 {dlx=Sf}");
        k.total(1, 275);
        publishEmpty(k, "", "own", 1);
        publishEmpty(k, "", "q0", 23);
        k.total(1, 299);
        k.say(0, "1 60.70 'own 0", "1 60.90 1:4 0");
        // 298 when it has left: it comes to the first two of the eleven.
        k.total(1, 300);
        k.ready("q0", 24 + 11 + 23 + 1);
        k.ready("q1", 25);
        k.ready("q2", 24);
        k.total(7, 1);
    }

    private static Kit twelve(String name, String table) {
        Kit k = with(name, "1 40.10 'f 'fanout 16 {}");
        for (int i = 0; i < 12; i++) {
            k.say(0, "1 50.10 'q" + i + " 16 {" + table + "}", "1 50.20 ' 'f ' 1 {}");
        }
        return k;
    }

    /** At most 300 in all queues together: UNACKED ones count, those of deleted queues do not. */
    private static void threeHundredMessages() {
        Kit k = twelve("threeHundredMessages", "");
        publishEmpty(k, "f", "", 24);
        publishEmpty(k, "", "q0", 11);
        k.total(1, 299);
        k.say(0, "1 60.70 'q0 0");
        k.total(1, 299);
        publishEmpty(k, "", "q1", 1);
        k.total(1, 300);
        k.connected(0, 0, 5);
        k.readAll(0);
        k.ask(0, "1 60.40 ' 'q1 0");
        k.hard(0, 506, 60, 40, "1 H 60:2 0:4 0:2");
        k.total(1, 300);
        k.sayDue(0, 0, "0 10.51");
        k.open(0);
        k.say(0, "1 60.70 'q1 0", "1 50.40 'q1 4");
        k.total(1, 275);
        k.channel(0, 1, 1, 1);
        publishEmpty(k, "f", "", 2);
        publishEmpty(k, "", "q2", 3);
        k.total(1, 300);
        k.readAll(0);
        k.ask(0, "1 60.40 ' 'q2 0");
        k.hard(0, 506, 60, 40, "1 H 60:2 0:4 0:2");
    }

    /** 506 if the hall is FULL comes ahead of routing: for what leads nowhere, too. */
    private static void fullAndRoutedNowhere() {
        Kit k = twelve("fullAndRoutedNowhere", "");
        publishEmpty(k, "f", "", 25);
        k.total(1, 300);
        k.sayDue(0, 6, Kit.publishing("", "none", 1, "0:2", "x"));
        k.hear(0, "0 10.50 506:2 ' 60:2 40:2");
    }

    private static void fullHalfWayIsNoReturn() {
        Kit k = twelve("fullHalfWayIsNoReturn", "");
        publishEmpty(k, "f", "", 24);
        publishEmpty(k, "", "q0", 11);
        k.sayDue(0, 5, Kit.publishing("f", "", 1, "0:2", "x"));
        k.hear(0);
        k.total(1, 300);
        k.ready("q0", 36);
        k.ready("q1", 24);
    }

    /** Where max lets one go for each that comes, the hall is not FULL for the next queue. */
    private static void maxMakesRoom() {
        Kit k = with("maxMakesRoom", "1 40.10 'f 'fanout 16 {}", "1 40.10 'g 'fanout 16 {}");
        for (int i = 0; i < 12; i++) {
            k.say(0, "1 50.10 'q" + i + " 16 {" + (i < 2 ? "max=I24" : "") + "}", "1 50.20 ' 'f ' 1 {}");
        }
        k.say(0, "1 50.20 'q0 'g ' 1 {}", "1 50.20 'q1 'g ' 1 {}", "1 50.20 'q2 'g ' 1 {}");
        publishEmpty(k, "f", "", 24);
        publishEmpty(k, "", "q3", 11);
        k.total(1, 299);
        publishEmpty(k, "g", "", 1);
        k.total(7, 2);
        k.ready("q0", 24);
        k.ready("q1", 24);
        k.ready("q2", 25);
        k.total(1, 300);
    }

    private static void numbersUpTo12000() {
        Kit k = nearlyAll("numbersUpTo12000", 2);
        publishEmpty(k, "", "one", 1);
        k.connected(0, 0, 5);
        publishEmpty(k, "", "one", 1);
        k.connected(0, 0, 5);
        k.readAll(0);
        k.ask(0, "1 60.40 ' 'one 0");
        k.hard(0, 506, 60, 40, "1 H 60:2 0:4 0:2");
    }

    /** Number 12000 goes to the first of two queues; the second gets none. */
    private static void numbersHalfWay() {
        Kit k = nearlyAll("numbersHalfWay", 1);
        k.say(0, "1 40.10 'g 'fanout 16 {}", "1 50.20 'one 'g ' 1 {}", "1 50.20 'two 'g ' 1 {}");
        int two = k.hall.queue(k.place("two"), 0);
        k.say(0, Kit.publishing("g", "", 1, "0:2", "z"));
        k.hear(0);
        k.ready("two", two);
        k.ask(0, "1 60.70 'one 1", "1 60.71 1:4 0 'g ' 0:4", "1 H 60:2 1:4 0:2", "1 B z");
        k.ask(0, "1 60.40 ' 'two 0");
        k.hard(0, 506, 60, 40, "1 H 60:2 0:4 0:2");
    }

    /** A hall with the queues one and two in which just so many NUMBERS are left. */
    private static Kit nearlyAll(String name, int left) {
        Kit k = with(name, "1 40.10 'f 'fanout 16 {}", "1 50.10 'one 16 {max=I1}", "1 50.10 'two 16 {max=I1}");
        for (int i = 0; i < 10; i++) {
            k.say(0, "1 50.10 'q" + i + " 16 {ttl=I1,dlx=Sf}", "1 50.20 ' 'f ' 1 {}");
        }
        int given = 0;
        for (int queues = 10; queues > 0; queues--) {
            int step = numbersOfOne(queues);
            for (int i = 0; i < 20 && given + step <= 12000 - left; i++) {
                publishEmpty(k, "f", "", 1);
                k.hall.tick(4);
                given += step;
            }
            k.say(0, "1 50.50 'q" + (queues - 1) + " 'f ' {}");
        }
        k.readAll(0);
        k.total(7, given);
        k.total(1, 0);
        for (int i = 0; i < 3 && given < 12000 - left; i++) {
            publishEmpty(k, "", "one", 1);
            given++;
        }
        k.due("numbers that were given", given, 12000 - left);
        return k;
    }

    /** One content to so many queues is DEAD and BURIED in all of them three times over, as far as the hall has room. */
    private static int numbersOfOne(int queues) {
        int sum = 0;
        int there = 1;
        for (int deaths = 0; deaths <= 3; deaths++) {
            there = Math.min(300, there * queues);
            sum += there;
        }
        return sum;
    }

    /** Each once, in the order in which queues were made. */
    private static void eachQueueOnce() {
        Kit k = with("eachQueueOnce", "1 50.10 'b 16 {}", "1 50.10 'a 16 {}", "1 40.10 'e 'topic 16 {}", "1 50.20 'a 'e '# 1 {}", "1 50.20 'b 'e '# 1 {}", "1 50.20 'b 'e '* 1 {}",
                "1 50.20 'b 'e 'k 1 {}", "1 50.20 'b 'e 'k 1 {x=I1}");
        k.publish(0, "e", "k", "x");
        k.total(1, 2);
        k.ready("a", 1);
        k.ready("b", 1);
        // The first made has the lesser NUMBER, so it is the first DEAD, and stands first where both are BURIED.
        k = with("in the order in which queues were made", "1 50.10 'd 16 {}", "1 50.10 'b 16 {dlx=S,dlk=Sd}", "1 50.10 'a 16 {dlx=S,dlk=Sd}", "1 40.10 'e 'fanout 18 {}");
        k.say(0, "1 50.20 'a 'e ' 1 {}", "1 50.20 'b 'e ' 1 {}", "1 60.20 'a 'ca 10", "1 60.20 'b 'cb 10");
        k.publish(0, "e", "k", "x");
        k.hear(0, "1 60.60 'cb 1:4 0 'e 'k", "1 H 60:2 1:4 0:2", "1 B x", "1 60.60 'ca 2:4 0 'e 'k", "1 H 60:2 1:4 0:2", "1 B x");
    }

    private static void defaultExchange() {
        Kit k = with("defaultExchange", "1 50.10 'q 16 {}", "1 50.10 'Q 16 {}", "1 50.10 '# 16 {}");
        k.publish(0, "", "q", "x");
        k.ready("q", 1);
        k.ready("Q", 0);
        k.ready("#", 0);
        k.publish(0, "", "q.x", "x");
        k.publish(0, "", "", "x");
        k.total(1, 1);
        k.publish(0, "", "#", "x");
        k.ready("#", 1);
    }

    private static void directKeys() {
        Kit k = with("directKeys", "1 50.10 'q 16 {}", "1 40.10 'e 'direct 16 {}", "1 50.20 'q 'e 'a.* 1 {}", "1 50.20 'q 'e '# 1 {}", "1 50.20 'q 'e ' 1 {}");
        int due = 0;
        for (String key : new String[] {"a.*", "#", "", "a.b", "a", "A.*", "a.*.", ".a.*"}) {
            k.publish(0, "e", key, "x");
            due += key.equals("a.*") || key.equals("#") || key.isEmpty() ? 1 : 0;
            k.ready("q", due);
        }
    }

    private static void topicWords() {
        String[][] rows = {
            // the binding's key, keys that match, keys that do not
            {"", "", "|", "a", ".", "a."},
            {"*", "", "a", "*", "#", "|", "a.b", ".", "a."},
            {"#", "", "a", ".", "a.b", "..", "#", "a.b.c.d.e.f", "|"},
            {"*.*", ".", "a.b", "a.", ".b", "|", "", "a", "..", "a.b.c"},
            {"a.#", "a", "a.", "a.b", "a.b.c", "a..", "|", "", "b", "b.a", ".a", "ab"},
            {"#.a", "a", ".a", "b.a", "b.c.a", "a.a", "|", "", "a.", "a.b", "ba"},
            {"a.#.b", "a.b", "a.c.b", "a.c.d.b", "a..b", "a.b.b", "|", "a", "b", "a.b.c", "ab"},
            {"#.a.#", "a", "a.a", "b.a", "a.b", "b.a.b", ".a.", "|", "", "b", "aa", "b.aa.b"},
            {"*.#", "", "a", "a.b", "a.b.c", ".", "|"},
            {"#.*", "", "a", "a.b", ".", "|"},
            {"#.#", "", "a", "a.b", "|"},
            {"*.#.*", ".", "a.b", "a.b.c", "|", "", "a"},
            {"a*", "a*", "|", "ab", "a", "a.b"},
            {"a#", "a#", "|", "a", "ab", "a.b"},
            {"##", "##", "|", "", "a", "a.b"},
            {"**", "**", "|", "", "a"},
            {"a.", "a.", "|", "a", "a.b", "a.."},
            {".a", ".a", "|", "a", "b.a"},
            {"a..b", "a..b", "|", "a.b", "a.c.b"},
            {"a.*.b", "a..b", "a.c.b", "a.*.b", "|", "a.b", "a.c.d.b"},
            {"#.a.#.b.#", "a.b", "x.a.y.b.z", "a.a.b.b", "|", "b.a", "a", "b", ""},
            {"#.a.a", "a.a", "a.a.a", "b.a.a", "|", "a", "a.a.b"},
            {"#.a.*.a", "a.b.a", "a.a.a.a", "a.b.a.c.a", "|", "a.a", "a.b.c.a.b"},
        };
        for (String[] row : rows) {
            Kit k = with("topicWords " + row[0], "1 50.10 'q 16 {}", "1 40.10 'e 'topic 16 {}", "1 50.20 'q 'e '" + row[0] + " 1 {}");
            boolean matches = true;
            int due = 0;
            for (int i = 1; i < row.length; i++) {
                if (row[i].equals("|")) {
                    matches = false;
                    continue;
                }
                k.publish(0, "e", row[i], "x");
                due += matches ? 1 : 0;
                k.due("key " + row[i], k.hall.queue(0, 0), due);
            }
        }
        Kit k = with("the longest keys", "1 50.10 'q 16 {}", "1 40.10 'e 'topic 16 {}", "1 50.20 'q 'e '" + Kit.repeat("#.", 19) + "x 1 {}",
                "1 50.20 'q 'e '" + Kit.repeat("#.a.", 9) + "#.b 1 {}");
        k.publish(0, "e", Kit.repeat("a.", 19) + "aa", "x");
        k.ready("q", 0);
        k.publish(0, "e", Kit.repeat(".", 40), "x");
        k.ready("q", 0);
        k.publish(0, "e", Kit.repeat("a.", 19) + "x", "x");
        k.ready("q", 1);
        k.publish(0, "e", Kit.repeat("a.", 19) + "b", "x");
        k.ready("q", 2);
        k.publish(0, "e", Kit.repeat("a.", 8) + "b", "x");
        k.ready("q", 2);
        k.publish(0, "e", Kit.repeat("a.", 9) + "b", "x");
        k.ready("q", 3);
    }

    private static void headersAllOrAny() {
        String[][] rows = {
            // the binding's TABLE, HEADERS that match, HEADERS that do not (- for none)
            {"", "-", "", "a=I1", "|"},
            {"match=Sall", "-", "", "a=I1", "|"},
            {"match=Sany", "|", "-", "", "a=I1", "match=Sany"},
            {"a=I1", "a=I1", "a=I1,b=I2", "a=I2,a=I1", "|", "-", "", "a=I2", "a=t1", "b=I1", "a=I1,a=I2", "A=I1", "a=S1"},
            {"a=I1,b=Sx", "a=I1,b=Sx", "b=Sx,c=t1,a=I1", "|", "a=I1", "b=Sx", "a=I1,b=S", "a=I1,b=Sxx", "-"},
            {"a=I1,b=Sx,match=Sany", "a=I1", "b=Sx", "a=I1,b=Sy", "a=I2,b=Sx", "a=I1,b=Sx", "|", "-", "", "a=I2,b=Sy", "c=I1", "match=Sany"},
            {"a=I1,match=SAny", "a=I1", "|", "-", "b=I1", "match=SAny"},
            {"a=I1,b=I1,match=t1", "a=I1,b=I1", "|", "a=I1", "match=t1"},
            {"a=I1,b=I1,match=I1", "a=I1,b=I1", "|", "a=I1"},
            {"a=I1,b=I1,match=Sany,match=Sx", "a=I1,b=I1", "|", "a=I1"},
            {"a=I1,b=I1,match=Sx,match=Sany", "a=I1", "b=I1", "|", "c=I1"},
            {"a=t0", "a=t0", "|", "a=t1", "a=I0", "-"},
            {"a=t1", "a=t1", "|", "a=t0", "a=t255"},
            {"=S", "=S", "|", "-", "=I0", "a=S"},
            {"a=I1,a=I2", "a=I2", "|", "a=I1"},
        };
        for (String[] row : rows) {
            Kit k = with("headersAllOrAny " + row[0], "1 50.10 'q 16 {}", "1 40.10 'e 'headers 16 {}", "1 50.20 'q 'e 'k 1 {" + row[0] + "}");
            boolean matches = true;
            int due = 0;
            for (int i = 1; i < row.length; i++) {
                if (row[i].equals("|")) {
                    matches = false;
                    continue;
                }
                k.publish(0, "e", "other", row[i].equals("-") ? "0:2" : "8:2 {" + row[i] + "}", "x");
                due += matches ? 1 : 0;
                k.due("headers " + row[i], k.hall.queue(0, 0), due);
            }
        }
    }

    /** From the ALTERNATE only if no binding MATCHES. */
    private static void alternateOnlyIfNone() {
        Kit k = with("alternateOnlyIfNone", "1 50.10 'q 16 {}", "1 50.10 'r 16 {}", "1 40.10 'e 'direct 16 {alt=Sf}", "1 40.10 'f 'fanout 24 {}", "1 50.20 'q 'e 'k 1 {}", "1 50.20 'r 'f ' 1 {}");
        k.publish(0, "e", "k", "x");
        k.ready("q", 1);
        k.ready("r", 0);
        k.publish(0, "e", "j", "x");
        k.ready("q", 1);
        k.ready("r", 1);
        k.ask(0, "1 60.70 'r 1", "1 60.71 1:4 0 'e 'j 0:4", "1 H 60:2 1:4 0:2", "1 B x");
    }

    /** And so on, each exchange once: also twelve in a ring. */
    private static void alternateRoundAndRound() {
        Kit k = with("alternateRoundAndRound", "1 50.10 'q 16 {}");
        for (int i = 0; i < 12; i++) {
            k.say(0, "1 40.10 'e" + i + " 'direct 16 {alt=Se" + (i + 1) % 12 + "}");
        }
        k.say(0, "1 50.20 'q 'e11 'k 1 {}");
        k.publish(0, "e0", "k", "x");
        k.ready("q", 1);
        k.say(0, Kit.publishing("e0", "j", 1, "0:2", "x"));
        k.hear(0, "1 60.50 312:2 ' 'e0 'j", "1 H 60:2 1:4 0:2", "1 B x");
        k = with("its own alternate", "1 40.10 'e 'direct 16 {alt=Se}");
        k.say(0, Kit.publishing("e", "j", 1, "0:2", "x"));
        k.hear(0, "1 60.50 312:2 ' 'e 'j", "1 H 60:2 1:4 0:2", "1 B x");
    }

    private static void alternateThatIsNot() {
        Kit k = with("alternateThatIsNot", "1 50.10 'k 16 {}", "1 40.10 'e 'direct 16 {alt=Sf}", "1 40.10 'g 'direct 16 {alt=S}");
        k.publish(0, "e", "k", "x");
        k.publish(0, "g", "k", "x");
        k.total(1, 0);
        k.say(0, "1 40.10 'f 'fanout 16 {}", "1 50.20 'k 'f ' 1 {}");
        k.publish(0, "e", "k", "x");
        k.total(1, 1);
        k.say(0, "1 40.20 'f 2");
        k.publish(0, "e", "k", "x");
        k.total(1, 1);
    }

    /** 404 for an exchange that is none, 403 for one that is INTERNAL: with the METHOD. */
    private static void publishLooksAtOnce() {
        Kit k = with("publishLooksAtOnce", "1 40.10 'i 'fanout 24 {}", "1 40.10 'e 'fanout 16 {}");
        k.soft(0, 404, 60, 40, "1 60.40 'none ' 0");
        k.soft(0, 404, 60, 40, "1 60.40 'E ' 1");
        k.soft(0, 403, 60, 40, "1 60.40 'i ' 1");
        k.ask(0, "1 60.40 'e ' 0");
        k.ask(0, "1 H 60:2 0:4 0:2");
        k.ask(0, "1 60.40 ' ' 0");
        k.ask(0, "1 H 60:2 0:4 0:2");
    }

    /** It is routed where the exchange is there still, and as bindings are when the content is there. */
    private static void publishWhereItWas() {
        Kit k = with("publishWhereItWas", "1 50.10 'q 16 {}", "1 40.10 'e 'fanout 16 {}", "1 50.20 'q 'e ' 1 {}", "1 60.40 'e 'k 1", "1 H 60:2 1:4 0:2");
        k.openChannel(0, 2);
        k.ask(0, "2 40.20 'e 2");
        k.ask(0, "1 B x", "1 60.50 312:2 ' 'e 'k", "1 H 60:2 1:4 0:2", "1 B x");
        k.total(1, 0);
        k = with("bindings that came between", "1 50.10 'q 16 {}", "1 40.10 'e 'fanout 16 {}", "1 60.40 'e 'k 1", "1 H 60:2 1:4 0:2");
        k.openChannel(0, 2);
        k.ask(0, "2 50.20 'q 'e ' 1 {}");
        k.ask(0, "1 B x");
        k.total(1, 1);
    }

    /** An exchange is known by its name: one that was made again, even as another kind, is there still. */
    private static void publishWhereItIsAgain() {
        for (boolean kept : new boolean[] {false, true}) {
            Kit k = with("publishWhereItIsAgain " + kept, "1 50.10 'q 16 {}", "1 40.10 'e 'direct 16 {}");
            k.openChannel(0, 2);
            if (kept) {
                k.ask(0, "1 90.10", "1 90.11");
            }
            k.say(0, "1 60.40 'e 'k 1", "1 H 60:2 1:4 0:2");
            if (kept) {
                k.say(0, "1 B x");
            }
            k.ask(0, "2 40.20 'e 2");
            k.ask(0, "2 40.10 'e 'fanout 24 {}");
            k.ask(0, "2 50.20 'q 'e ' 1 {}");
            k.ask(0, kept ? "1 90.20" : "1 B x", kept ? new String[] {"1 90.21"} : new String[0]);
            k.queue(0, 0, 1);
            k.ask(0, "2 60.70 'q 1", "2 60.71 1:4 0 'e 'k 0:4", "2 H 60:2 1:4 0:2", "2 B x");
        }
    }

    private static void returnOnlyIfMandatory() {
        for (int bits : new int[] {0, 1, 2, 3, 254, 255}) {
            Kit k = with("returnOnlyIfMandatory " + bits, "1 50.10 'q 16 {}");
            k.say(0, Kit.publishing("", "none", bits, "0:2", ""));
            k.hear(0, (bits & 1) == 0 ? new String[0] : new String[] {"1 60.50 312:2 ' ' 'none", "1 H 60:2 0:4 0:2"});
            k.say(0, Kit.publishing("", "q", bits, "0:2", ""));
            k.hear(0);
        }
    }

    private static void returnTells() {
        Kit k = with("returnTells", "1 40.10 '" + Kit.repeat("e", 40) + " 'fanout 16 {}");
        String body = Kit.repeat("b", 200);
        String flags = "15:2 255 1 4294967295:4 {" + Kit.repeat("n", 40) + "=S" + Kit.repeat("s", 40) + ",a=I-1,a=t9}";
        k.say(0, Kit.publishing(Kit.repeat("e", 40), Kit.repeat("k", 40), 1, flags.replace("255 1", "255 77"), body));
        k.hear(0, "1 60.50 312:2 ' '" + Kit.repeat("e", 40) + " '" + Kit.repeat("k", 40), "1 H 60:2 200:4 " + flags, "1 B " + body);
    }

    /** FLAGS of a HEADER from the hall: 1 if PRIORITY is not 0, 2 if PERSISTENT, 4 if it has an EXPIRATION, 8 if it has HEADERS. */
    private static void flagsOfTheHall() {
        String[][] rows = {{"0:2", "0:2"}, {"1:2 0", "0:2"}, {"1:2 1", "1:2 1"}, {"1:2 255", "1:2 255"}, {"2:2 0", "0:2"}, {"2:2 1", "2:2 1"}, {"2:2 255", "2:2 1"},
            {"4:2 0:4", "4:2 0:4"}, {"4:2 7:4", "4:2 7:4"}, {"8:2 {}", "8:2 {}"}, {"8:2 {a=I1,a=I1}", "8:2 {a=I1,a=I1}"}, {"15:2 0 0 0:4 {}", "12:2 0:4 {}"},
            {"3:2 0 5", "2:2 1"}, {"3:2 5 0", "1:2 5"}};
        for (String[] row : rows) {
            Kit k = with("flagsOfTheHall " + row[0], "1 50.10 'q 16 {pri=I2}");
            k.publish(0, "", "q", row[0], "x");
            k.ask(0, "1 60.70 'q 0", "1 60.71 1:4 0 ' 'q 0:4", "1 H 60:2 1:4 " + row[1], "1 B x");
        }
    }
}
