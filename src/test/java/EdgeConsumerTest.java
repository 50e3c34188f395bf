/** The edges of consumers: how many, their tags, limits and credit, and whose turn it is. */
public final class EdgeConsumerTest {
    public static void main(String[] args) {
        sixteen();
        orderOfErrors();
        exclusiveOnes();
        sameTag();
        madeTags();
        madeTagsAreOfTheChannel();
        cancelOfNone();
        cancelAnswersLast();
        cancelLeavesUnacked();
        ownLimit();
        limitIsThatOfItsComing();
        channelLimit();
        bothLimits();
        limitThatIsMovedBelow();
        gotOnesDoNotCount();
        cancelledOnesCount();
        limitsOfDeletedQueues();
        noAckHasNoLimit();
        inactive();
        inTurn();
        turnSkipsThoseWithoutCredit();
        turnIsOfTheQueue();
        turnBehindCancelled();
        turnDoesNotCountGet();
        firstQueueFirst();
        tagsOfTheChannel();
        redelivered();
        lostOrRequeued();
        getTells();
        Kit.end();
    }

    private static Kit with(String name, String... frames) {
        Kit k = new Kit(name);
        k.open(0);
        k.openChannel(0, 2);
        k.say(0, "1 50.10 'q 16 {}", "1 50.10 'r 16 {}");
        k.say(0, frames);
        k.readAll(0);
        return k;
    }

    /** Publishes bodies of one letter each, by way of channel 2. */
    private static void publish(Kit k, String queue, String bodies) {
        for (int i = 0; i < bodies.length(); i++) {
            k.say(0, "2 60.40 ' '" + queue + " 0", "2 H 60:2 1:4 0:2", "2 B " + bodies.charAt(i));
        }
    }

    /** Deliveries from queues of one letter, each "consumer tag redelivered queue body", after what else was sent. */
    private static void hears(Kit k, int channel, String deliveries) {
        hears(k, channel, new String[0], deliveries);
    }

    private static void hears(Kit k, int channel, String[] first, String deliveries) {
        String[] each = deliveries.isEmpty() ? new String[0] : deliveries.split(",");
        String[] frames = new String[first.length + 3 * each.length];
        System.arraycopy(first, 0, frames, 0, first.length);
        for (int i = 0; i < each.length; i++) {
            String[] word = each[i].trim().split(" ");
            frames[first.length + 3 * i] = channel + " 60.60 '" + word[0] + " " + word[1] + ":4 " + word[2] + " ' '" + word[3];
            frames[first.length + 3 * i + 1] = channel + " H 60:2 1:4 0:2";
            frames[first.length + 3 * i + 2] = channel + " B " + word[4];
        }
        k.hear(0, frames);
    }

    /** CONSUMERS, at most 16, on all channels together. */
    private static void sixteen() {
        Kit k = with("sixteen");
        k.open(1);
        for (int i = 1; i <= 15; i++) {
            k.say(i % 3 == 0 ? 1 : 0, (i % 3 == 1 ? 2 : 1) + " 60.20 'q 'c" + i + " 8");
            k.total(5, i);
        }
        k.ask(0, "1 60.20 'r 'last 0", "1 60.21 'last");
        k.total(5, 16);
        k.queue(0, 2, 15);
        k.queue(1, 2, 1);
        k.hard(1, 506, 60, 20, "1 60.20 'r 'more 8");
        k.total(5, 11);
        k.ask(0, "1 60.20 'r 'more 0", "1 60.21 'more");
        k.total(5, 12);
    }

    /** The queue's errors, 403, 530, 506. */
    private static void orderOfErrors() {
        Kit k = with("orderOfErrors", "1 60.20 'r 'x 12");
        for (int i = 2; i <= 16; i++) {
            k.say(0, "1 60.20 'q 'c" + i + " 8");
        }
        k.total(5, 16);
        k.open(1);
        k.soft(1, 404, 60, 20, "1 60.20 'none ' 0");
        k.soft(1, 403, 60, 20, "1 60.20 'r 'y 0");
        k.soft(1, 403, 60, 20, "1 60.20 'q 'y 4");
        k.hard(1, 506, 60, 20, "1 60.20 'q 'y 0");
        k.hard(0, 530, 60, 20, "1 60.20 'q 'x 0");
        k = with("403 ahead of 530", "1 60.20 'r 'x 12");
        k.soft(0, 403, 60, 20, "1 60.20 'r 'x 0");
        k = with("403 for exclusive ahead of 530", "1 60.20 'r 'x 8");
        k.soft(0, 403, 60, 20, "1 60.20 'r 'x 4");
    }

    private static void exclusiveOnes() {
        Kit k = with("exclusiveOnes");
        k.ask(0, "1 60.20 'q 'a 4", "1 60.21 'a");
        k.ask(0, "1 60.20 'r 'b 0", "1 60.21 'b");
        k.ask(0, "2 60.20 'q 'a 0", "2 20.40 403:2 ' 60:2 20:2");
        k.say(0, "2 20.41", "2 20.10");
        k.readAll(0);
        k.ask(0, "2 60.20 'r 'c 4", "2 20.40 403:2 ' 60:2 20:2");
        k.say(0, "2 20.41", "2 20.10", "1 60.30 'a 1");
        k.readAll(0);
        k.ask(0, "2 60.20 'q 'c 6", "2 60.21 'c");
        k.soft(0, 403, 60, 20, "1 60.20 'q 'a 0");
        k.ask(0, "2 60.30 'c 1");
        k.ask(0, "1 60.20 'q 'a 0", "1 60.21 'a");
        k.ask(0, "2 60.20 'q 'a 0", "2 60.21 'a");
    }

    /** 530 if the channel has one of this tag, of whichever queue. */
    private static void sameTag() {
        Kit k = with("sameTag", "1 60.20 'q 'a 8");
        k.ask(0, "2 60.20 'q 'a 0", "2 60.21 'a");
        k.ask(0, "1 60.20 'q 'A 0", "1 60.21 'A");
        k.ask(0, "1 60.20 'q 'aa 0", "1 60.21 'aa");
        k.ask(0, "1 60.30 'a 1");
        k.ask(0, "1 60.20 'r 'a 0", "1 60.21 'a");
        k.hard(0, 530, 60, 20, "1 60.20 'q 'a 0");
        k = with("sameTag as one that was made", "1 60.20 'q ' 8");
        k.hard(0, 530, 60, 20, "1 60.20 'r 'ctag-1 8");
    }

    /** 1 more than the last one so made on this channel, the first that is none here. */
    private static void madeTags() {
        Kit k = with("madeTags");
        for (int i = 1; i <= 15; i++) {
            k.say(0, "1 60.20 'q 'ctag-" + i + " 8");
        }
        k.ask(0, "1 60.20 'q ' 0", "1 60.21 'ctag-16");
        k.say(0, "1 60.30 'ctag-16 1", "1 60.30 'ctag-3 1");
        k.ask(0, "1 60.20 'q ' 0", "1 60.21 'ctag-17");
        k.ask(0, "1 60.20 'q ' 0", "1 60.21 'ctag-18");
        k = with("a tag that is not just so is none of these", "1 60.20 'q 'ctag-01 8", "1 60.20 'q 'ctag- 8", "1 60.20 'q 'Ctag-1 8", "1 60.20 'q 'ctag-0 8", "2 60.20 'q 'ctag-1 8");
        k.ask(0, "1 60.20 'q ' 0", "1 60.21 'ctag-1");
        k = with("one that was not made so is passed over when its turn comes", "1 60.20 'q ' 8", "1 60.20 'q 'ctag-3 8");
        k.ask(0, "1 60.20 'q ' 0", "1 60.21 'ctag-2");
        k.ask(0, "1 60.20 'q ' 0", "1 60.21 'ctag-4");
        k = with("one that was not made so does not count when it is gone", "1 60.20 'q 'ctag-1 8", "1 60.20 'q 'ctag-2 8", "1 60.30 'ctag-1 1");
        k.ask(0, "1 60.20 'q ' 0", "1 60.21 'ctag-1");
        k.ask(0, "1 60.20 'q ' 0", "1 60.21 'ctag-3");
    }

    private static void madeTagsAreOfTheChannel() {
        Kit k = with("madeTagsAreOfTheChannel");
        k.open(1);
        for (int i = 1; i <= 2; i++) {
            k.ask(0, "1 60.20 'q ' 0", "1 60.21 'ctag-" + i);
            k.ask(0, "2 60.20 'q ' 0", "2 60.21 'ctag-" + i);
            k.ask(1, "1 60.20 'q ' 0", "1 60.21 'ctag-" + i);
        }
    }

    /** If the channel has none such, nothing but the answer. */
    private static void cancelOfNone() {
        Kit k = with("cancelOfNone", "1 60.20 'q 'a 8");
        k.ask(0, "1 60.30 'b 0", "1 60.31 'b");
        k.ask(0, "1 60.30 ' 0", "1 60.31 '");
        k.ask(0, "1 60.30 'A 0", "1 60.31 'A");
        k.ask(0, "2 60.30 'a 0", "2 60.31 'a");
        k.ask(0, "1 60.30 'b 1");
        k.total(5, 1);
        k.ask(0, "1 60.30 'a 0", "1 60.31 'a");
        k.ask(0, "1 60.30 'a 0", "1 60.31 'a");
        k.total(5, 0);
    }

    /** The answer comes last, behind what the end of an AUTO-DELETE queue does; if it does not fit, that has been done. */
    private static void cancelAnswersLast() {
        Kit k = with("cancelAnswersLast", "1 50.10 'auto 24 {}", "1 60.20 'auto 'a 8");
        k.stuff(0, 13);
        k.sayDue(0, 0, "1 60.30 'a 0");
        k.total(2, 2);
        k = with("just room", "1 50.10 'auto 24 {}", "1 60.20 'auto 'a 8");
        k.stuff(0, 14);
        k.sayDue(0, 5, "1 60.30 'a 0");
        k.total(2, 2);
    }

    private static void cancelLeavesUnacked() {
        Kit k = with("cancelLeavesUnacked", "1 60.20 'q 'a 8");
        publish(k, "q", "x");
        k.readAll(0);
        k.ask(0, "1 60.30 'a 0", "1 60.31 'a");
        k.channel(0, 1, 1, 1);
        k.channel(0, 1, 6, 0);
        k.queue(0, 1, 1);
        k.ask(0, "1 60.90 1:4 1");
        k.queue(0, 0, 1);
    }

    /** Its own UNACKED ones are below its LIMIT; 0: no limit. */
    private static void ownLimit() {
        for (int limit : new int[] {0, 1, 2, 3, 65535}) {
            Kit k = with("ownLimit " + limit, "1 60.10 " + limit + ":2 0", "1 60.20 'q 'a 8");
            publish(k, "q", "tuvw");
            int got = limit == 0 ? 4 : Math.min(4, limit);
            k.queue(0, 1, got);
            k.queue(0, 0, 4 - got);
            k.say(0, "1 60.80 1:4 0");
            got = Math.min(3, limit == 0 ? 3 : limit);
            k.queue(0, 1, got);
            k.queue(0, 0, 3 - got);
        }
    }

    private static void limitIsThatOfItsComing() {
        Kit k = with("limitIsThatOfItsComing", "1 60.20 'q 'a 8", "1 60.10 1:2 0", "1 60.20 'r 'b 8", "1 60.10 2:2 0");
        publish(k, "q", "xyz");
        k.queue(0, 1, 3);
        publish(k, "r", "xyz");
        k.queue(1, 1, 1);
        k.say(0, "1 60.20 'r 'c 8");
        k.queue(1, 1, 3);
        k.say(0, "1 60.10 0:2 0");
        publish(k, "r", "u");
        k.queue(1, 1, 3);
    }

    /** All UNACKED ones of consumers of its channel are below that one's. */
    private static void channelLimit() {
        for (int limit : new int[] {0, 1, 3, 4, 65535}) {
            Kit k = with("channelLimit " + limit, "1 60.10 " + limit + ":2 1", "1 60.20 'q 'a 8", "1 60.20 'r 'b 8", "2 60.20 'r 'other 8", "2 60.30 'other 1");
            publish(k, "q", "xy");
            publish(k, "r", "xyz");
            int got = limit == 0 ? 5 : Math.min(5, limit);
            k.channel(0, 1, 1, got);
            k.say(0, "1 60.80 1:4 0");
            got = Math.min(4, limit == 0 ? 4 : limit);
            k.channel(0, 1, 1, got);
        }
        Kit k = with("another channel has its own", "1 60.10 1:2 1", "1 60.20 'q 'a 8", "2 60.20 'q 'b 8");
        publish(k, "q", "xyz");
        k.channel(0, 1, 1, 1);
        k.channel(0, 2, 1, 2);
    }

    private static void bothLimits() {
        Kit k = with("bothLimits", "1 60.10 2:2 0", "1 60.10 3:2 1", "1 60.20 'q 'a 8", "1 60.20 'r 'b 8");
        publish(k, "q", "xyz");
        k.queue(0, 1, 2);
        publish(k, "r", "xyz");
        k.queue(1, 1, 1);
        k.say(0, "1 60.80 1:4 0");
        k.queue(0, 1, 2);
        k.queue(1, 1, 1);
        k.say(0, "1 60.80 2:4 0", "1 60.80 4:4 0");
        k.queue(0, 1, 0);
        k.queue(1, 1, 2);
    }

    /** A limit that is set below what is UNACKED takes nothing back; one that is raised is seen at once. */
    private static void limitThatIsMovedBelow() {
        Kit k = with("limitThatIsMovedBelow", "1 60.20 'q 'a 8");
        publish(k, "q", "xyz");
        k.say(0, "1 60.10 2:2 1");
        publish(k, "q", "u");
        k.queue(0, 0, 1);
        k.queue(0, 1, 3);
        k.say(0, "1 60.80 1:4 0");
        k.queue(0, 0, 1);
        k.readAll(0);
        k.sayDue(0, 5, "1 60.10 3:2 1");
        hears(k, 1, new String[] {"1 60.11"}, "a 4 0 q u");
        publish(k, "q", "v");
        k.hear(0);
        k.sayDue(0, 5, "1 60.80 2:4 0");
        hears(k, 1, "a 5 0 q v");
    }

    /** Of consumers: what GET has taken is not theirs. */
    private static void gotOnesDoNotCount() {
        Kit k = with("gotOnesDoNotCount", "1 60.10 1:2 0", "1 60.10 1:2 1");
        publish(k, "q", "xyz");
        k.say(0, "1 60.70 'q 0", "1 60.70 'q 0", "1 60.20 'q 'a 8");
        k.queue(0, 1, 3);
        publish(k, "q", "u");
        k.queue(0, 0, 1);
        k.say(0, "1 60.80 2:4 1");
        k.queue(0, 0, 1);
        k.say(0, "1 60.80 3:4 1");
        k.queue(0, 0, 0);
    }

    /** Also of such as were cancelled, for the channel's limit; not for another one's own. */
    private static void cancelledOnesCount() {
        Kit k = with("cancelledOnesCount", "1 60.10 2:2 1", "1 60.10 1:2 0", "1 60.20 'q 'a 8");
        publish(k, "q", "x");
        k.say(0, "1 60.30 'a 1", "1 60.20 'q 'a 8");
        publish(k, "q", "y");
        k.queue(0, 1, 2);
        k.say(0, "1 60.30 'a 1", "1 60.20 'q 'a 8");
        publish(k, "q", "z");
        k.queue(0, 0, 1);
        k.say(0, "1 60.80 1:4 0");
        k.queue(0, 0, 0);
    }

    /** Tags of a deleted queue count as UNACKED till they are ended. */
    private static void limitsOfDeletedQueues() {
        for (String end : new String[] {"1 60.80 1:4 0", "1 60.90 1:4 0", "1 60.90 1:4 1", "1 60.120 0:4 3", "1 60.110 1"}) {
            Kit k = with("limitsOfDeletedQueues " + end, "1 60.10 1:2 1", "1 60.20 'q 'a 8", "1 60.20 'r 'b 8");
            publish(k, "q", "x");
            k.say(0, "2 50.40 'q 4");
            publish(k, "r", "y");
            k.queue(0, 0, 1);
            k.say(0, end);
            k.queue(0, 0, 0);
            k.queue(0, 1, 1);
        }
    }

    private static void noAckHasNoLimit() {
        Kit k = with("noAckHasNoLimit", "1 60.10 1:2 0", "1 60.10 1:2 1", "1 60.20 'q 'a 10", "1 60.20 'r 'b 8");
        publish(k, "r", "xy");
        publish(k, "q", "xyz");
        k.queue(0, 0, 0);
        k.queue(0, 1, 0);
        k.queue(1, 0, 1);
        k.channel(0, 1, 4, 4);
        k.channel(0, 1, 1, 1);
    }

    private static void inactive() {
        Kit k = with("inactive", "1 60.20 'q 'a 8", "1 60.20 'q 'b 10", "2 60.20 'q 'c 8", "1 20.20 0");
        publish(k, "q", "xyz");
        hears(k, 2, "c 1 0 q x,c 2 0 q y,c 3 0 q z");
        k.ask(0, "2 20.20 0", "2 20.21 0");
        publish(k, "q", "u");
        k.hear(0);
        k.sayDue(0, 5, "1 20.20 1");
        hears(k, 1, new String[] {"1 20.21 1"}, "a 1 0 q u");
    }

    /** Round and round in the order in which they came. */
    private static void inTurn() {
        Kit k = with("inTurn", "1 60.20 'q 'c 8", "1 60.20 'r 'z 8", "1 60.20 'q 'a 8", "1 60.20 'q 'b 8");
        publish(k, "q", "tuvwxyz");
        hears(k, 1, "c 1 0 q t,a 2 0 q u,b 3 0 q v,c 4 0 q w,a 5 0 q x,b 6 0 q y,c 7 0 q z");
        k.say(0, "1 60.20 'q 'new 8");
        publish(k, "q", "tuvw");
        hears(k, 1, "a 8 0 q t,b 9 0 q u,new 10 0 q v,c 11 0 q w");
    }

    private static void turnSkipsThoseWithoutCredit() {
        Kit k = with("turnSkipsThoseWithoutCredit", "1 60.20 'q 'a 8", "1 60.10 1:2 0", "1 60.20 'q 'b 8", "1 60.10 0:2 0", "1 60.20 'q 'c 8");
        publish(k, "q", "uvwxyz");
        hears(k, 1, "a 1 0 q u,b 2 0 q v,c 3 0 q w,a 4 0 q x,c 5 0 q y,a 6 0 q z");
        k.say(0, "1 60.80 2:4 0");
        publish(k, "q", "uv");
        hears(k, 1, "b 7 0 q u,c 8 0 q v");
    }

    private static void turnIsOfTheQueue() {
        Kit k = with("turnIsOfTheQueue", "1 60.20 'q 'a 8", "1 60.20 'q 'b 8", "1 60.20 'r 'c 8", "1 60.20 'r 'd 8");
        publish(k, "q", "u");
        publish(k, "r", "v");
        publish(k, "q", "w");
        publish(k, "r", "xy");
        publish(k, "q", "z");
        hears(k, 1, "a 1 0 q u,c 2 0 r v,b 3 0 q w,d 4 0 r x,c 5 0 r y,a 6 0 q z");
    }

    /** From the first one, if the last that got one was cancelled since; another one's going leaves the turn as it is. */
    private static void turnBehindCancelled() {
        Kit k = with("turnBehindCancelled", "1 60.20 'q 'a 8", "1 60.20 'q 'b 8", "1 60.20 'q 'c 8", "1 60.20 'q 'd 8");
        publish(k, "q", "uvw");
        k.say(0, "1 60.30 'c 1");
        publish(k, "q", "x");
        hears(k, 1, "a 1 0 q u,b 2 0 q v,c 3 0 q w,a 4 0 q x");
        k.say(0, "1 60.30 'd 1");
        publish(k, "q", "y");
        hears(k, 1, "b 5 0 q y");
        k.say(0, "1 60.30 'a 1", "1 60.20 'q 'e 8", "1 60.20 'q 'a 8");
        publish(k, "q", "zuv");
        hears(k, 1, "e 6 0 q z,a 7 0 q u,b 8 0 q v");
        k.say(0, "1 60.30 'b 1", "1 60.20 'q 'b 8");
        publish(k, "q", "z");
        hears(k, 1, "e 9 0 q z");
        k = with("the last one of the list", "1 60.20 'q 'a 8", "1 60.20 'q 'b 8");
        publish(k, "q", "uv");
        k.say(0, "1 60.30 'b 1", "1 60.20 'q 'b 8");
        publish(k, "q", "w");
        hears(k, 1, "a 1 0 q u,b 2 0 q v,a 3 0 q w");
    }

    /** The last that got one of this queue by DELIVER: GET does not count. */
    private static void turnDoesNotCountGet() {
        Kit k = with("turnDoesNotCountGet", "1 60.20 'q 'a 8", "1 60.20 'q 'b 8");
        publish(k, "q", "u");
        k.say(0, "1 20.20 0");
        publish(k, "q", "v");
        k.say(0, "1 60.70 'q 1", "1 20.20 1");
        k.readAll(0);
        publish(k, "q", "w");
        hears(k, 1, "b 3 0 q w");
    }

    private static void firstQueueFirst() {
        Kit k = with("firstQueueFirst", "1 20.20 0", "1 60.20 'r 'b 8", "1 60.20 'q 'a 8");
        publish(k, "r", "uv");
        publish(k, "q", "wx");
        k.sayDue(0, 5, "1 20.20 1");
        hears(k, 1, new String[] {"1 20.21 1"}, "a 1 0 q w,a 2 0 q x,b 3 0 r u,b 4 0 r v");
    }

    /** Delivery tags of a channel are 1, 2, ..: of all its consumers and GETs, with ACK or without. */
    private static void tagsOfTheChannel() {
        Kit k = with("tagsOfTheChannel", "1 60.20 'q 'a 8");
        publish(k, "q", "u");
        k.say(0, "1 60.30 'a 1", "1 60.20 'q 'b 10");
        publish(k, "q", "v");
        hears(k, 1, "a 1 0 q u,b 2 0 q v");
        publish(k, "r", "wxy");
        k.ask(0, "1 60.70 'r 1", "1 60.71 3:4 0 ' 'r 2:4", "1 H 60:2 1:4 0:2", "1 B w");
        k.ask(0, "1 60.70 'r 0", "1 60.71 4:4 0 ' 'r 1:4", "1 H 60:2 1:4 0:2", "1 B x");
        k.ask(0, "2 60.70 'r 0", "2 60.71 1:4 0 ' 'r 0:4", "2 H 60:2 1:4 0:2", "2 B y");
        k.ask(0, "1 60.70 'r 0", "1 60.72");
        k.channel(0, 1, 4, 4);
        k.channel(0, 2, 4, 1);
        k.channel(0, 1, 1, 2);
    }

    private static void redelivered() {
        Kit k = with("redelivered", "1 60.20 'q 'a 8", "1 60.20 'q 'b 8");
        publish(k, "q", "u");
        k.say(0, "1 60.90 1:4 1");
        hears(k, 1, "a 1 0 q u,b 2 1 q u");
        k.say(0, "1 60.30 'a 1", "1 60.30 'b 1", "1 60.110 1");
        k.readAll(0);
        k.ask(0, "1 60.70 'q 0", "1 60.71 3:4 1 ' 'q 0:4", "1 H 60:2 1:4 0:2", "1 B u");
    }

    /** With ACK it is REQUEUED if it does not fit, and goes to the next; without it is lost. */
    private static void lostOrRequeued() {
        for (int noAck : new int[] {0, 2}) {
            Kit k = with("lostOrRequeued " + noAck);
            k.open(1);
            k.say(1, "1 60.20 'q 'a " + (8 + noAck));
            k.stuff(1, 46);
            k.say(0, "1 60.20 'q 'b 8");
            publish(k, "q", "u");
            k.connected(1, 0, 0);
            k.total(5, 1);
            k.total(7, 0);
            hears(k, 1, noAck != 0 ? "" : "b 1 1 q u");
            publish(k, "q", "v");
            hears(k, 1, noAck != 0 ? "b 1 0 q v" : "b 2 0 q v");
        }
    }

    /** 60.72 if nothing is READY; else how many READY ones are left. */
    private static void getTells() {
        Kit k = with("getTells");
        k.ask(0, "1 60.70 'q 0", "1 60.72");
        k.ask(0, "1 60.70 'q 1", "1 60.72");
        k.channel(0, 1, 4, 0);
        publish(k, "q", "uvw");
        for (int i = 1; i <= 3; i++) {
            k.ask(0, "1 60.70 'q 0", "1 60.71 " + i + ":4 0 ' 'q " + (3 - i) + ":4", "1 H 60:2 1:4 0:2", "1 B " + "uvw".charAt(i - 1));
        }
        k.ask(0, "1 60.70 'q 0", "1 60.72");
        k.queue(0, 1, 3);
        k.channel(0, 1, 4, 3);
    }
}
