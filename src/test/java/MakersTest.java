/** Promises 9 to 14 (mine, block, payment, filterByte, waiting, forget) and what 4 MAKERS says. */
public final class MakersTest {
    private static final int BAD = PurseHouse.BAD;
    private static final int NONE = PurseHouse.NONE;
    private static final int FULL = PurseHouse.FULL;

    public static void main(String[] args) {
        Due due = new Due("makers");
        mineWrongly(due);
        refusedMineTakesNothing(due);
        mintsAddress(due);
        mintsNumber(due);
        fortyBlocks(due);
        goodOnes(due);
        allThatInputsName(due);
        namesBlocksBefore(due);
        namesWhatIsGone(due);
        namesOneOutputTwice(due);
        namesNoOutput(due);
        oneBehindTheOther(due);
        threeAtMost(due);
        orderOfWhatWaits(due);
        spoiledOnes(due);
        blockWrongly(due);
        paymentWrongly(due);
        filterWrongly(due);
        waitAndForget(due);
        due.end();
    }

    /** Promise 9: "BAD: no such block, seconds .. (With both the tape stays.)"; seconds are 0 .. 1,000. */
    private static void mineWrongly(Due due) {
        Pair p = new Pair(due);
        p.feed(1, 2, 3, 4, 5);
        int tape = p.hash(0, 0);
        due.is("no block 1", p.mine(1, 0), BAD);
        due.is("no block -1", p.mine(-1, 0), BAD);
        due.is("no block", p.mine(Integer.MAX_VALUE, 0), BAD);
        due.is("no block", p.mine(Integer.MIN_VALUE, 0), BAD);
        due.is("seconds -1", p.mine(0, -1), BAD);
        due.is("seconds 1001", p.mine(0, 1001), BAD);
        due.is("seconds", p.mine(0, Integer.MIN_VALUE), BAD);
        due.is("seconds", p.mine(0, Integer.MAX_VALUE), BAD);
        due.is("the tape stays", p.cut(0), 20);
        due.is("the tape stays", p.hash(0, 0), tape);
        due.is("no block was made", p.block(1, 0), BAD);
        due.is("seconds 1000", p.mine(0, 1000), 1);
        due.is("the tape is empty", p.cut(0), 0);
        due.is("TIME", p.block(1, 3), 1000);
        due.is("seconds 0", p.mine(1, 0), 2);
        due.is("TIME", p.block(2, 3), 1000);
        due.is("seconds 999", p.mine(2, 999), 3);
        due.is("TIME", p.block(3, 3), 1999);
        due.is("seconds 1", p.mine(0, 1), 4);
        due.is("TIME is counted from the block before", p.block(4, 3), 1);
        due.is("no block 5", p.mine(5, 0), BAD);
        due.is("the last block", p.mine(4, 0), 5);
    }

    /** A refused block takes nothing of what waits. */
    private static void refusedMineTakesNothing(Due due) {
        Pair p = Pair.rich(due, 1);
        p.signAndSend(p.payOut(1000, 0));
        p.mine(2, 0);
        p.mine(1, 1001);
        due.is("it waits on", p.waiting(), 1);
        for (int b = 2; b < 40; b++) {
            p.mine(0, 30);
        }
        due.is("40 blocks", p.mine(1, 0), FULL);
        due.is("it waits on", p.waiting(), 1);
    }

    /** "its MINT for the tape's first 20 bytes (the tape is empty then), or, if it has fewer, .. (it stays)". */
    private static void mintsAddress(Due due) {
        Pair p = new Pair(due);
        due.is("no bytes: for 20 times 255", p.mine(0, 10), 1);
        p.feed(-1, -1, -1, -1, -1);
        due.is("for the same", p.mine(0, 10), 2);
        due.is("the same filter", p.block(1, 24), p.block(2, 24));
        p.feed(1, 2, 3, 4, 5);
        p.cut(1);
        int tape = p.hash(0, 0);
        due.is("19 bytes: for 20 times 255", p.mine(0, 10), 3);
        due.is("the same filter", p.block(3, 24), p.block(1, 24));
        due.is("they stay", p.cut(0), 19);
        due.is("they stay", p.hash(0, 0), tape);
        p.cut(19);
        p.feed(1, 2, 3, 4, 5);
        due.is("20 bytes", p.mine(0, 10), 4);
        due.is("the tape is empty", p.cut(0), 0);
        due.yes("for another", p.block(4, 24) != p.block(1, 24));
        p.feed(1, 2, 3, 4, 5);
        p.feed(6, 7, 8, 9, 10);
        p.cut(19);
        due.is("21 bytes", p.mine(0, 10), 5);
        due.is("the tape is empty", p.cut(0), 0);
        due.is("for the first 20", p.block(5, 24), p.block(4, 24));
        for (int i = 0; i < 10; i++) {
            p.feed(i < 1 ? 1 : 9, 2, 3, 4, 5);
        }
        due.is("200 bytes", p.mine(0, 10), 6);
        due.is("the tape is empty", p.cut(0), 0);
        due.is("for the first 20", p.block(6, 24), p.block(4, 24));
        p.lookAtMade();
    }

    /** "A MINT is 0 (1), the number of its block (2), 1 (1) and one output": of 1,000. */
    private static void mintsNumber(Due due) {
        Pair p = new Pair(due);
        for (int b = 1; b < 40; b++) {
            p.mine(0, 0);
            due.is("inputs", p.payment(b, 0, 0), 0);
            due.is("outputs", p.payment(b, 0, 1), 1);
            due.is("value", p.payment(b, 0, 10), 1000);
            byte[] mint = Reference.join(0, 0, b, 1, 0, 0, 3, 232, Reference.ones());
            due.is("ID", p.payment(b, 0, 2), Reference.word(Reference.hashOf(mint), 0));
        }
    }

    /** "MAKERS have up to 40 blocks"; promise 9: "FULL: 40 blocks. (With both the tape stays.)". */
    private static void fortyBlocks(Due due) {
        Pair p = new Pair(due);
        for (int b = 1; b < 40; b++) {
            due.is("mine", p.mine(b - 1, 30), b);
        }
        p.feed(1, 2, 3, 4, 5);
        int tape = p.hash(0, 0);
        due.is("no block 40", p.mine(40, 0), BAD);
        due.is("seconds 1001", p.mine(39, 1001), BAD);
        due.is("40 blocks", p.mine(39, 0), FULL);
        due.is("40 blocks", p.mine(0, 1000), FULL);
        due.is("the tape stays", p.cut(0), 20);
        due.is("the tape stays", p.hash(0, 0), tape);
        due.is("HEIGHT", p.block(39, 1), 39);
        due.is("no block 40", p.block(40, 1), BAD);
        p.lookAtMade(3);
    }

    /** "A block that is made has a MINT of 1,000, then those payments that wait .. What was taken .. waits no more." */
    private static void goodOnes(Due due) {
        Pair p = Pair.rich(due, 4);
        int d = p.signAndSend(p.payOut(700, 1));
        due.is("waiting", p.waiting(), 1);
        due.is("mine", p.mine(4, 30), 5);
        due.is("waits no more", p.waiting(), 0);
        due.is("payments", p.block(5, 5), 2);
        due.is("inputs", p.payment(5, 1, 0), 1);
        due.is("outputs", p.payment(5, 1, 1), 2);
        due.is("value", p.payment(5, 1, 10), 700);
        due.is("rest", p.payment(5, 1, 11), 1000 - 700 - 180);
        due.is("no third", p.payment(5, 1, 12), 0);
        due.is("FEE", p.draft(d, 2), 180);
        p.giveAll(5);
        p.look();
        p.lookAtMade();
    }

    /** "outputs together are no more than what the inputs name": they may be all of that. */
    private static void allThatInputsName(Due due) {
        for (int amount : new int[] {999, 1000}) {
            Pair p = Pair.rich(due, 1);
            p.signAndSend(p.payOut(amount, 0));
            int b = p.mine(1, 30);
            due.is("payments", p.block(b, 5), 2);
            due.is("value", p.payment(b, 1, 10), amount);
        }
        Pair p = Pair.rich(due, 4);
        p.signAndSend(p.payOut(4000, 0));
        int b = p.mine(4, 30);
        due.is("four inputs", p.payment(b, 1, 0), 4);
        due.is("value", p.payment(b, 1, 10), 4000);
    }

    /** GOOD: "its inputs name outputs .. of payments in the blocks before": of no other block. */
    private static void namesBlocksBefore(Due due) {
        Pair p = Pair.rich(due, 2);
        int d = p.payOut(2000, 0);
        p.signAndSend(d);
        due.is("both are before", p.block(p.mine(2, 30), 5), 2);
        p.send(d, 0, 0);
        due.is("one of two inputs is not before", p.block(p.mine(1, 30), 5), 1);
        due.is("none is before", p.block(p.mine(0, 30), 5), 1);
        due.is("it waits on", p.waiting(), 1);
        int far = p.mine(2, 31);
        due.is("far before", p.block(far, 5), 2);
        due.is("waits no more", p.waiting(), 0);
    }

    /** GOOD: "that no input there names": neither in a block before nor before it in this one. */
    private static void namesWhatIsGone(Due due) {
        Pair p = Pair.rich(due, 2);
        int d = p.signAndSend(p.payOut(1000, 0));
        due.is("sent once more", p.send(d, 0, 0), 1);
        int b = p.mine(2, 30);
        due.is("in this block it is named already", p.block(b, 5), 2);
        due.is("the other waits on", p.waiting(), 1);
        due.is("in the block before it is named already", p.block(p.mine(b, 30), 5), 1);
        int far = p.mine(p.mine(b, 30), 30);
        due.is("in a block far before, too", p.block(far, 5), 1);
        due.is("it waits on", p.waiting(), 1);
        int side = p.mine(2, 31);
        due.is("on another way it is good", p.block(side, 5), 2);
        due.is("nothing waits", p.waiting(), 0);
        due.is("the same payment", p.payment(side, 1, 2), p.payment(b, 1, 2));
        p.drop(d);
        int other = p.signAndSend(p.payOut(900, 0));
        due.is("another payment of the same coin", p.block(p.mine(b, 31), 5), 1);
        due.is("it waits on", p.waiting(), 1);
        p.send(d, 0, 0);
        due.is("good before that is made", p.block(p.mine(2, 32), 5), 2);
        due.is("other", p.draft(other, 4), 3);
        p.lookAtMade(3);
    }

    /** Two drafts for one coin wait: of these the first one is good. */
    private static void namesOneOutputTwice(Due due) {
        Pair p = Pair.rich(due, 1);
        int first = p.signAndSend(p.payOut(1000, 0));
        p.drop(first);
        p.signAndSend(p.payOut(990, 0));
        int b = p.mine(1, 30);
        due.is("one of them", p.block(b, 5), 2);
        due.is("the first", p.payment(b, 1, 10), 1000);
        due.is("the other waits on", p.waiting(), 1);
    }

    /** GOOD: "its inputs name outputs": an output that its payment does not have is none. */
    private static void namesNoOutput(Due due) {
        Pair p = Pair.rich(due, 1);
        int d = p.payOut(1000, 0);
        p.sign(d);
        for (int which : new int[] {1, 2, 3, 4, 127, 128, 255}) {
            due.is("it can be read", p.send(d, 33, which), 1);
        }
        due.is("an ID that no payment has", p.send(d, 1, 1), 1);
        int b = p.mine(1, 30);
        due.is("none is good", p.block(b, 5), 1);
        due.is("all wait on", p.waiting(), 8);
    }

    /** "of payments in the blocks before, or before it in this one": what waits is gone through in order. */
    private static void oneBehindTheOther(Due due) {
        Pair p = Pair.rich(due, 1);
        int first = p.signAndSend(p.payOut(300, 1));
        p.giveAll(p.mine(1, 30));
        due.is("the rest is a coin", p.coin(0, 0), 1000 - 300 - 180);
        int second = p.signAndSend(p.payOut(100, 0));
        p.send(first, 0, 0);
        p.mine(1, 31);
        due.is("what it names stands behind it", p.block(3, 5), 2);
        due.is("it waits on", p.waiting(), 1);
        p.forget();
        p.send(first, 0, 0);
        p.send(second, 0, 0);
        p.mine(1, 32);
        due.is("what it names stands before it", p.block(4, 5), 3);
        due.is("nothing waits", p.waiting(), 0);
        p.giveAll(3);
        p.giveAll(4);
        p.look();
        p.lookAtMade();
    }

    /** "in order, as many as are GOOD there, 3 at most": with two, three and four of them. */
    private static void threeAtMost(Due due) {
        for (int n = 2; n <= 5; n++) {
            Pair p = Pair.rich(due, 5);
            for (int i = 0; i < n; i++) {
                p.signAndSend(p.payOut(900 + i, 0));
            }
            p.mine(5, 30);
            due.is("payments", p.block(6, 5), 1 + Math.min(3, n));
            for (int i = 0; i < Math.min(3, n); i++) {
                due.is("in order", p.payment(6, 1 + i, 10), 900 + i);
            }
            due.is("the others wait on", p.waiting(), Math.max(0, n - 3));
            p.mine(6, 30);
            due.is("they come next", p.block(7, 5), 1 + Math.max(0, n - 3));
            due.is("none waits", p.waiting(), 0);
            p.giveAll(6);
            p.giveAll(7);
            p.look();
            p.lookAtMade(5);
        }
    }

    /** Those that are not good keep their places before, between and behind. */
    private static void orderOfWhatWaits(Due due) {
        Pair p = Pair.rich(due, 6);
        int[] amounts = {901, 902, 903, 904, 905, 906};
        for (int i = 0; i < 6; i++) {
            p.signAndSend(p.payOut(amounts[i], 0));
        }
        int b = p.mine(3, 30);
        due.is("of blocks 1, 2, 3", p.block(b, 5), 4);
        due.is("three wait on", p.waiting(), 3);
        due.is("none of them is good there", p.block(p.mine(b, 30), 5), 1);
        p.send(0, 0, 0);
        b = p.mine(6, 30);
        due.is("in order", p.payment(b, 1, 10), 904);
        due.is("in order", p.payment(b, 2, 10), 905);
        due.is("in order", p.payment(b, 3, 10), 906);
        due.is("the one that came last waits on", p.waiting(), 1);
        b = p.mine(b, 30);
        due.is("it comes next", p.payment(b, 1, 10), 901);
    }

    /** "WITNESSES are RIGHT": whatever byte is spoiled, the payment is not good. */
    private static void spoiledOnes(Due due) {
        Pair p = Pair.rich(due, 3);
        int d = p.payOut(1900, 0);
        p.sign(d);
        int length = p.y.drafts.get(d).bytes().length;
        for (int place = 0; place < length && p.y.made.size() < 38; place += 9) {
            if (p.send(d, place, 1 << place % 8) == 1) {
                due.is("it waits", p.waiting(), 1);
                due.is("not good", p.block(p.mine(3, 30), 5), 1);
                due.is("it waits on", p.waiting(), 1);
                p.forget();
            }
        }
        p.send(d, 0, 0);
        due.is("good", p.block(p.mine(3, 30), 5), 2);
    }

    /** Promise 10: "Of a block: 0 the block before (NONE) .. BAD: none such". */
    private static void blockWrongly(Due due) {
        Pair p = Pair.rich(due, 2);
        for (int b : new int[] {-1, 3, 40, Integer.MIN_VALUE, Integer.MAX_VALUE}) {
            due.is("block " + b, p.block(b, 0), BAD);
            due.is("block " + b, p.block(b, 31), BAD);
        }
        for (int what : new int[] {-1, 32, Integer.MIN_VALUE, Integer.MAX_VALUE}) {
            due.is("what " + what, p.block(0, what), BAD);
            due.is("what " + what, p.block(2, what), BAD);
        }
        due.is("the first has none before", p.block(0, 0), NONE);
        due.is("before", p.block(1, 0), 0);
        due.is("before", p.block(2, 0), 1);
        p.lookAtMade();
    }

    /** Promise 11: "values of its outputs (0 without). BAD: none such". */
    private static void paymentWrongly(Due due) {
        Pair p = Pair.rich(due, 2);
        p.signAndSend(p.payOut(700, 0));
        p.mine(2, 30);
        for (int b : new int[] {-1, 4, Integer.MIN_VALUE, Integer.MAX_VALUE}) {
            due.is("payment of block " + b, p.payment(b, 0, 0), BAD);
        }
        for (int i : new int[] {-1, 2, 3, 4, Integer.MIN_VALUE, Integer.MAX_VALUE}) {
            due.is("payment " + i, p.payment(3, i, 0), BAD);
            due.is("payment " + i, p.payment(3, i, 10), BAD);
        }
        due.is("payment 1 of a mint alone", p.payment(2, 1, 0), BAD);
        for (int what : new int[] {-1, 13, Integer.MIN_VALUE, Integer.MAX_VALUE}) {
            due.is("what " + what, p.payment(3, 0, what), BAD);
            due.is("what " + what, p.payment(3, 1, what), BAD);
        }
        due.is("a mint's value", p.payment(3, 0, 10), 1000);
        due.is("a mint has no second", p.payment(3, 0, 11), 0);
        due.is("a mint has no third", p.payment(3, 0, 12), 0);
        due.is("value", p.payment(3, 1, 10), 700);
        due.is("the second one's value", p.payment(3, 1, 11), 300);
        due.is("no third", p.payment(3, 1, 12), 0);
        p.lookAtMade();
    }

    /** Promise 12: "A byte of a block's filter. BAD: none such". */
    private static void filterWrongly(Due due) {
        Pair p = Pair.rich(due, 1);
        p.signAndSend(p.payOut(700, 0));
        p.mine(1, 30);
        due.is("filter of block -1", p.filterByte(-1, 0), BAD);
        due.is("filter of block 3", p.filterByte(3, 0), BAD);
        for (int b = 0; b < 3; b++) {
            int length = p.block(b, 6);
            due.is("byte -1", p.filterByte(b, -1), BAD);
            due.yes("the last byte", p.filterByte(b, length - 1) >= 0);
            due.is("byte behind the end", p.filterByte(b, length), BAD);
            due.is("byte far behind the end", p.filterByte(b, Integer.MAX_VALUE), BAD);
            due.is("byte far before the start", p.filterByte(b, Integer.MIN_VALUE), BAD);
        }
        due.is("one number", p.filterByte(1, 0), 1);
        due.is("four numbers", p.filterByte(2, 0), 4);
    }

    /** "12 wait at most"; promises 13 and 14. */
    private static void waitAndForget(Due due) {
        Pair p = Pair.rich(due, 1);
        due.is("nothing waits", p.waiting(), 0);
        due.is("nothing to forget", p.forget(), 0);
        int d = p.signAndSend(p.payOut(1000, 0));
        for (int i = 1; i < 12; i++) {
            due.is("waiting", p.waiting(), i);
            due.is("once more", p.send(d, 0, 0), 1);
        }
        due.is("12 wait", p.waiting(), 12);
        due.is("12 at most", p.send(d, 0, 0), FULL);
        due.is("12 wait", p.waiting(), 12);
        due.is("one of them", p.block(p.mine(1, 30), 5), 2);
        due.is("11 wait", p.waiting(), 11);
        due.is("room for one", p.send(d, 0, 0), 1);
        due.is("12 at most", p.send(d, 0, 0), FULL);
        due.is("thrown away", p.forget(), 12);
        due.is("nothing waits", p.waiting(), 0);
        due.is("nothing to forget", p.forget(), 0);
        due.is("what is thrown away is in no block", p.block(p.mine(1, 30), 5), 1);
        due.is("it may be sent again", p.send(d, 0, 0), 1);
        due.is("one waits", p.waiting(), 1);
        p.mine(1, 30);
        due.is("none waits", p.waiting(), 0);
    }
}
