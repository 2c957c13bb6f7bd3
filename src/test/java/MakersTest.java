/** Promises 9 to 14: mine, block, payment, filterByte, waiting, forget. */
public final class MakersTest {
    private static final int BAD = PurseHouse.BAD;
    private static final int NONE = PurseHouse.NONE;
    private static final int FULL = PurseHouse.FULL;

    public static void main(String[] args) {
        Due due = new Due("makers");
        mineWrongly(due);
        mintsAddress(due);
        fortyBlocks(due);
        difficultyEdges(due);
        difficultySpan(due);
        difficultyLimits(due);
        goodOnes(due);
        notGood(due);
        oneBehindTheOther(due);
        threeAtMost(due);
        spoiledOnes(due);
        blockWrongly(due);
        waitAndForget(due);
        due.end();
    }

    /** Promise 9: wrong inputs. */
    private static void mineWrongly(Due due) {
        Pair p = new Pair(due);
        p.feed(1, 2, 3, 4, 5);
        due.is("no block 1", p.mine(1, 0), BAD);
        due.is("no block -1", p.mine(-1, 0), BAD);
        due.is("seconds -1", p.mine(0, -1), BAD);
        due.is("seconds 1001", p.mine(0, 1001), BAD);
        due.is("the tape stays", p.cut(0), 20);
        due.is("seconds 1000", p.mine(0, 1000), 1);
        due.is("the tape is empty", p.cut(0), 0);
        due.is("seconds 0", p.mine(1, 0), 2);
        due.is("TIME", p.block(2, 3), 1000);
    }

    private static void mintsAddress(Due due) {
        Pair p = new Pair(due);
        due.is("for 20 times 255", p.mine(0, 10), 1);
        p.feed(-1, -1, -1, -1, -1);
        due.is("for the same", p.mine(0, 10), 2);
        due.is("the same filter", p.block(1, 24), p.block(2, 24));
        due.yes("another mint by its block's number", p.payment(1, 0, 2) != p.payment(2, 0, 2));
        p.feed(1, 2, 3, 4, 5);
        p.cut(1);
        due.is("19 bytes", p.mine(0, 10), 3);
        due.is("they stay", p.cut(0), 19);
        due.is("for 20 times 255", p.block(3, 24), p.block(1, 24));
        p.feed(6, 7, 8, 9, 10);
        due.is("39 bytes", p.mine(0, 10), 4);
        due.is("the tape is empty", p.cut(0), 0);
        due.is("a mint has no inputs", p.payment(4, 0, 0), 0);
        due.is("one output", p.payment(4, 0, 1), 1);
        due.is("1,000", p.payment(4, 0, 10), 1000);
        due.is("no second value", p.payment(4, 0, 11), 0);
        due.is("no third value", p.payment(4, 0, 12), 0);
        p.lookAtMade();
    }

    private static void fortyBlocks(Due due) {
        Pair p = new Pair(due);
        for (int b = 1; b < 40; b++) {
            due.is("mine", p.mine(b - 1, 30), b);
        }
        p.feed(1, 2, 3, 4, 5);
        due.is("BAD before FULL", p.mine(40, 0), BAD);
        due.is("BAD before FULL", p.mine(39, 1001), BAD);
        due.is("40 blocks", p.mine(39, 0), FULL);
        due.is("40 blocks", p.mine(0, 0), FULL);
        due.is("the tape stays", p.cut(0), 20);
        due.is("HEIGHT", p.block(39, 1), 39);
        p.lookAtMade();
    }

    /** D of height 4, with a span over three blocks. */
    private static int bitsBehind(Due due, int span) {
        Pair p = new Pair(due);
        p.mine(0, 0);
        p.mine(1, span / 2);
        p.mine(2, span - span / 2);
        p.mine(3, 1000);
        for (int b = 0; b < 5; b++) {
            p.block(b, 7);
        }
        return p.block(4, 2);
    }

    private static void difficultyEdges(Due due) {
        due.is("0 seconds", bitsBehind(due, 0), 3);
        due.is("39 seconds", bitsBehind(due, 39), 3);
        due.is("40 seconds", bitsBehind(due, 40), 2);
        due.is("160 seconds", bitsBehind(due, 160), 2);
        due.is("161 seconds", bitsBehind(due, 161), 1);
    }

    /** Only the three steps behind the block four before count, not those around them. */
    private static void difficultySpan(Due due) {
        int[][] steps = {{1000, 20, 10, 9}, {1000, 20, 10, 10}, {0, 60, 60, 40}, {0, 60, 60, 41}};
        int[] want = {3, 2, 2, 1};
        for (int i = 0; i < steps.length; i++) {
            Pair p = new Pair(due);
            int b = 0;
            for (int j = 0; j < 3; j++) {
                b = p.mine(b, 20);
            }
            for (int step : steps[i]) {
                b = p.mine(b, step);
            }
            due.is("D before", p.block(b, 2), 2);
            b = p.mine(b, i % 2 == 0 ? 0 : 1000);
            due.is("HEIGHT", p.block(b, 1), 8);
            due.is("D of height 8", p.block(b, 2), want[i]);
        }
    }

    private static void difficultyLimits(Due due) {
        Pair fast = new Pair(due);
        for (int b = 1; b < 40; b++) {
            fast.mine(b - 1, 0);
            due.is("D of height " + b, fast.block(b, 2), Math.min(6, 2 + b / 4));
        }
        fast.lookAtMade();
        Pair slow = new Pair(due);
        for (int b = 1; b < 14; b++) {
            slow.mine(b - 1, 1000);
            due.is("D of height " + b, slow.block(b, 2), b < 4 ? 2 : 1);
        }
        slow.mine(13, 0);
        slow.mine(14, 0);
        slow.mine(15, 0);
        due.is("the block of height 12 is slow still", slow.block(16, 2), 1);
        slow.lookAtMade();
    }

    /** A purse with n coins of 1,000 in blocks 1 .. n. */
    private static Pair rich(Due due, int n) {
        Pair p = new Pair(due);
        p.plant(1);
        p.gap(8);
        p.giveAll(0);
        for (int b = 1; b <= n; b++) {
            p.mineFor(b - 1, 30, 0, b - 1);
        }
        due.is("coins", p.coin(-1, 0), n);
        return p;
    }

    private static int sent(Pair p, int amount, int rate) {
        int d = p.payOut(amount, rate);
        p.sign(d);
        p.due.is("sent", p.send(d, 0, 0), 1);
        return d;
    }

    private static void goodOnes(Due due) {
        Pair p = rich(due, 4);
        int d = sent(p, 700, 1);
        due.is("waiting", p.waiting(), 1);
        due.is("mine", p.mine(4, 30), 5);
        due.is("waits no more", p.waiting(), 0);
        due.is("payments", p.block(5, 5), 2);
        due.is("inputs", p.payment(5, 1, 0), 1);
        due.is("outputs", p.payment(5, 1, 1), 2);
        due.is("value", p.payment(5, 1, 10), 700);
        due.is("rest", p.payment(5, 1, 11), 1000 - 700 - 180);
        due.is("no third", p.payment(5, 1, 12), 0);
        due.is("FEE", p.draft(d, 2), 180);
        due.is("how many numbers", p.filterByte(5, 0), 4);
        p.giveAll(5);
        p.look();
        p.lookAtMade();
    }

    private static void notGood(Due due) {
        Pair p = rich(due, 2);
        int d = sent(p, 1000, 0);
        due.is("sent once more", p.send(d, 0, 0), 1);
        due.is("it names a block that is not before", p.mine(0, 30), 3);
        due.is("mint alone", p.block(3, 5), 1);
        due.is("they wait on", p.waiting(), 2);
        due.is("mine", p.mine(2, 30), 4);
        due.is("one of them", p.block(4, 5), 2);
        due.is("the other waits on", p.waiting(), 1);
        due.is("mine", p.mine(4, 30), 5);
        due.is("it is gone already", p.block(5, 5), 1);
        due.is("another branch of the chain", p.mine(2, 31), 6);
        due.is("there it is good", p.block(6, 5), 2);
        due.is("nothing waits", p.waiting(), 0);
        due.is("the same payment", p.payment(6, 1, 2), p.payment(4, 1, 2));
        p.lookAtMade();
    }

    /** A payment that names an output of another one, in one block. */
    private static void oneBehindTheOther(Due due) {
        Pair p = rich(due, 1);
        int first = sent(p, 300, 1);
        p.giveAll(p.mine(1, 30));
        due.is("the rest is a coin", p.coin(0, 0), 1000 - 300 - 180);
        int second = sent(p, 100, 0);
        p.send(first, 0, 0);
        p.mine(1, 31);
        due.is("in order: the second could not be before the first", p.block(3, 5), 2);
        due.is("it waits on", p.waiting(), 1);
        p.forget();
        p.send(first, 0, 0);
        p.send(second, 0, 0);
        p.mine(1, 32);
        due.is("both", p.block(4, 5), 3);
        due.is("nothing waits", p.waiting(), 0);
        p.giveAll(3);
        p.giveAll(4);
        p.look();
        p.lookAtMade();
    }

    private static void threeAtMost(Due due) {
        Pair p = rich(due, 5);
        for (int i = 0; i < 5; i++) {
            sent(p, 900 + i, 0);
        }
        p.mine(5, 30);
        due.is("mint and three", p.block(6, 5), 4);
        due.is("in order", p.payment(6, 1, 10), 900);
        due.is("in order", p.payment(6, 3, 10), 902);
        due.is("two wait on", p.waiting(), 2);
        p.mine(6, 30);
        due.is("mint and two", p.block(7, 5), 3);
        due.is("none waits", p.waiting(), 0);
        p.giveAll(6);
        p.giveAll(7);
        p.look();
        p.lookAtMade();
    }

    /** Whatever byte is spoiled, the payment is not good. */
    private static void spoiledOnes(Due due) {
        Pair p = rich(due, 3);
        int d = p.payOut(1900, 0);
        p.sign(d);
        int length = p.y.drafts.get(d).bytes().length;
        int before = 3;
        for (int place = 0; place < length && p.y.made.size() < 38; place += 9) {
            if (p.send(d, place, 1 << place % 8) == 1) {
                due.is("it waits", p.waiting(), 1);
                before = p.mine(3, 30);
                due.is("not good", p.block(before, 5), 1);
                due.is("it waits on", p.waiting(), 1);
                p.forget();
            }
        }
        p.send(d, 0, 0);
        before = p.mine(3, 30);
        due.is("good", p.block(before, 5), 2);
    }

    /** Promises 10, 11, 12: wrong inputs. */
    private static void blockWrongly(Due due) {
        Pair p = rich(due, 1);
        due.is("block -1", p.block(-1, 0), BAD);
        due.is("block 2", p.block(2, 0), BAD);
        due.is("what -1", p.block(0, -1), BAD);
        due.is("what 32", p.block(0, 32), BAD);
        due.is("the first has none before", p.block(0, 0), NONE);
        due.is("before", p.block(1, 0), 0);
        due.is("payment of block -1", p.payment(-1, 0, 0), BAD);
        due.is("payment of block 2", p.payment(2, 0, 0), BAD);
        due.is("payment -1", p.payment(1, -1, 0), BAD);
        due.is("payment 1", p.payment(1, 1, 0), BAD);
        due.is("what -1", p.payment(1, 0, -1), BAD);
        due.is("what 13", p.payment(1, 0, 13), BAD);
        due.is("filter of block -1", p.filterByte(-1, 0), BAD);
        due.is("filter of block 2", p.filterByte(2, 0), BAD);
        due.is("byte -1", p.filterByte(1, -1), BAD);
        due.is("byte behind the end", p.filterByte(1, p.block(1, 6)), BAD);
        due.is("one number", p.filterByte(1, 0), 1);
        p.lookAtMade();
    }

    /** Promises 13 and 14. */
    private static void waitAndForget(Due due) {
        Pair p = rich(due, 1);
        due.is("nothing waits", p.waiting(), 0);
        due.is("nothing to forget", p.forget(), 0);
        int d = sent(p, 1000, 0);
        for (int i = 1; i < 12; i++) {
            due.is("waiting", p.waiting(), i);
            due.is("once more", p.send(d, 0, 0), 1);
        }
        due.is("12 wait", p.waiting(), 12);
        due.is("12 at most", p.send(d, 0, 0), FULL);
        due.is("thrown away", p.forget(), 12);
        due.is("nothing waits", p.waiting(), 0);
        due.is("it may be sent again", p.send(d, 0, 0), 1);
        due.is("one waits", p.waiting(), 1);
        p.mine(1, 30);
        due.is("none waits", p.waiting(), 0);
    }
}
