/** Promises 21 to 27: pay, draft, sign, draftByte, send, drop, check. */
public final class DraftsTest {
    private static final int BAD = PurseHouse.BAD;
    private static final int NONE = PurseHouse.NONE;
    private static final int FULL = PurseHouse.FULL;

    public static void main(String[] args) {
        Due due = new Due("drafts");
        payWrongly(due);
        payOrder(due);
        sixtyMore(due);
        greatestOnes(due);
        restEdges(due);
        noRoomForRest(due);
        smallCoins(due);
        coinOrder(due);
        rowsInOrder(due);
        twoThousand(due);
        sixteen(due);
        draftWrongly(due);
        sign(due);
        draftBytes(due);
        sendWrongly(due);
        sendUnreadable(due);
        sendValues(due);
        drop(due);
        check(due);
        due.end();
    }

    /** A purse with n coins of 1,000 in blocks 1 .. n. */
    private static Pair rich(Due due, int n) {
        Pair p = new Pair(due);
        p.plant(1);
        p.gap(8);
        p.giveAll(0);
        for (int b = 1; b <= n; b++) {
            p.mineFor(b - 1, 30, 0, (b - 1) % 32);
        }
        due.is("coins", p.coin(-1, 0), n);
        return p;
    }

    /** Splits a coin: amounts go to KEYS of the purse, each in a block of its own. */
    private static void payOwn(Pair p, int k, int... amounts) {
        for (int amount : amounts) {
            p.cut(p.cut(0));
            p.address(0, k);
            int d = p.pay(amount, 0);
            p.due.yes("paid", d >= 0);
            p.sign(d);
            p.send(d, 0, 0);
            p.giveAll(p.mine(p.y.made.size() - 1, 30));
        }
    }

    /** Promise 21: wrong inputs. */
    private static void payWrongly(Due due) {
        Pair p = new Pair(due);
        p.feed(1, 2, 3, 4, 5);
        due.is("no seed", p.pay(1, 1), BAD);
        p = rich(due, 1);
        p.feed(1, 2, 3, 4, 5);
        p.cut(1);
        due.is("19 bytes", p.pay(1, 1), BAD);
        p.feed(1, 2, 3, 4, 5);
        due.is("amount 0", p.pay(0, 1), BAD);
        due.is("amount -1", p.pay(-1, 1), BAD);
        due.is("amount 1,000,001", p.pay(1000001, 1), BAD);
        due.is("rate -1", p.pay(1, -1), BAD);
        due.is("rate 10", p.pay(1, 10), BAD);
        due.is("refused", p.pay(1000000, 0), NONE);
        due.is("refused", p.pay(1001, 0), NONE);
        due.is("refused for its FEE", p.pay(1000 - 155, 1), NONE);
        due.is("the tape stays", p.cut(0), 39);
        due.is("just enough", p.pay(1000 - 156, 1), 0);
        due.is("the tape is empty", p.cut(0), 0);
        due.is("no fee", p.draft(0, 2), 156);
        p.lookAtDrafts();
    }

    /** BAD, then FULL, then NONE. */
    private static void payOrder(Due due) {
        Pair p = rich(due, 1);
        for (int i = 0; i < 16; i++) {
            due.is("a draft", p.payOut(1000, 0), i);
            p.drop(i);
        }
        p.feed(1, 2, 3, 4, 5);
        due.is("BAD before FULL", p.pay(0, 0), BAD);
        due.is("BAD before FULL", p.pay(1, 10), BAD);
        due.is("FULL", p.pay(1, 0), FULL);
        due.is("FULL before NONE", p.pay(1000000, 0), FULL);
        due.is("the tape stays", p.cut(0), 20);
        p.cut(1);
        due.is("BAD before FULL", p.pay(1, 0), BAD);
    }

    /** (a): at most 60 more. */
    private static void sixtyMore(Due due) {
        Pair p = rich(due, 3);
        int d = p.payOut(940, 0);
        due.is("60 more: one output", p.draft(d, 1), 1);
        due.is("what is more is FEE", p.draft(d, 2), 60);
        due.is("no rest", p.draft(d, 3), 0);
        due.is("one look", p.draft(d, 5), 1);
        p.drop(d);
        d = p.payOut(939, 0);
        due.is("61 more: a second output", p.draft(d, 1), 2);
        due.is("no FEE", p.draft(d, 2), 0);
        due.is("the rest", p.draft(d, 3), 61);
        due.is("each taken and left", p.draft(d, 5), 6);
        p.drop(d);
        d = p.payOut(2000, 0);
        due.is("two coins", p.draft(d, 0), 2);
        due.is("two looks", p.draft(d, 5), 2);
        p.drop(d);
        d = p.payOut(2000 - 286 - 60, 1);
        due.is("60 more than amount and FEE", p.draft(d, 2), 346);
        p.drop(d);
        d = p.payOut(2000 - 286 - 61, 1);
        due.is("61 more, of which the second output takes 24", p.draft(d, 2), 347);
        due.is("one output", p.draft(d, 1), 1);
        due.is("no row did", p.draft(d, 5), 12);
        p.lookAtDrafts();
    }

    /** (b). */
    private static void greatestOnes(Due due) {
        Pair p = rich(due, 6);
        int d = p.payOut(3500, 0);
        due.is("four coins", p.draft(d, 0), 4);
        due.is("the rest", p.draft(d, 3), 500);
        due.is("two are free", p.sum(1), 2000);
        due.is("more than these have", p.payOut(2001, 0), NONE);
        p.drop(d);
        due.is("more than four coins have", p.payOut(4001, 0), NONE);
        d = p.payOut(4000, 0);
        due.is("all of four", p.draft(d, 2), 0);
        p.drop(d);
        d = p.payOut(2500, 2);
        due.is("three do not do with their FEE", p.draft(d, 0), 4);
        p.sign(d);
        p.send(d, 0, 0);
        p.giveAll(p.mine(6, 30));
        p.look();
        p.lookAtDrafts();
        p.lookAtMade();
    }

    /** The rest is worth an output only above 60. */
    private static void restEdges(Due due) {
        for (int above = 58; above <= 63; above++) {
            Pair p = rich(due, 1);
            int d = p.payOut(1000 - 3 * 180 - above, 3);
            due.is("outputs", p.draft(d, 1), above > 60 ? 2 : 1);
            due.is("FEE", p.draft(d, 2), above > 60 ? 540 : 540 + above);
            due.is("rest", p.draft(d, 3), above > 60 ? above : 0);
            p.lookAtDrafts();
        }
    }

    /** A row of (b) may have less than the FEE of a second output: then there is none. */
    private static void noRoomForRest(Due due) {
        for (int above = 59; above < 120; above += 15) {
            Pair p = rich(due, 2);
            int d = p.payOut(1000 - 5 * 156 - above, 5);
            due.is("inputs", p.draft(d, 0), 1);
            due.is("outputs", p.draft(d, 1), 1);
            due.is("FEE", p.draft(d, 2), 780 + above);
            due.is("looks", p.draft(d, 5), above > 60 ? 4 : 1);
            p.lookAtDrafts();
        }
    }

    /** Coins of 130 times the rate do not count. */
    private static void smallCoins(Due due) {
        Pair p = rich(due, 1);
        payOwn(p, 5, 260);
        due.is("looks without the coin of 260", p.draft(p.payOut(200, 2), 5), 2);
        p.lookAtDrafts();
        Pair q = rich(due, 1);
        payOwn(q, 5, 261);
        due.is("looks with the coin of 261", q.draft(q.payOut(200, 2), 5), 4);
        q.lookAtDrafts();
    }

    /** The greatest first, of equal ones as they came. */
    private static void coinOrder(Due due) {
        Pair p = rich(due, 3);
        payOwn(p, 5, 400, 330);
        p.look();
        due.is("coins", p.coin(-1, 0), 5);
        for (int amount : new int[] {1000, 670, 600, 400, 330}) {
            due.is("one coin", p.draft(p.payOut(amount, 0), 0), 1);
            p.look();
        }
        due.is("all are LOCKED", p.sum(1), 0);
        p.lookAtDrafts();
    }

    /** Rows are tried in their order, not the best one. */
    private static void rowsInOrder(Due due) {
        Pair p = rich(due, 4);
        payOwn(p, 6, 700, 500, 300, 250, 120);
        p.look();
        for (int amount = 50; amount < 2600 && p.y.drafts.size() < 16; amount += 233) {
            int d = p.payOut(amount, amount % 3);
            if (d >= 0) {
                p.draft(d, 5);
                p.drop(d);
            }
        }
        p.lookAtDrafts();
    }

    /** Behind the 2,000th coin that is taken or left, rows are given up. */
    private static void twoThousand(Due due) {
        Pair p = rich(due, 12);
        int d = p.payOut(3500, 0);
        due.is("all rows of 12", p.draft(d, 5), 2 * (12 + 66 + 220 + 495));
        p.drop(d);
        p.mineFor(12, 30, 0, 12);
        d = p.payOut(3500, 0);
        due.is("not all rows of 13", p.draft(d, 5), 2000);
        due.is("the greatest ones then", p.draft(d, 3), 500);
        p.drop(d);
        payOwn(p, 13, 600, 345);
        p.look();
        p.drop(p.payOut(345 + 600 + 390 + 2, 0));
        p.drop(p.payOut(2345, 0));
        p.drop(p.payOut(3345, 0));
        p.drop(p.payOut(1340, 0));
        p.drop(p.payOut(940, 0));
        p.lookAtDrafts();
    }

    private static void sixteen(Due due) {
        Pair p = rich(due, 20);
        for (int i = 0; i < 16; i++) {
            due.is("drafts", p.payOut(1000 - i, 0), i);
        }
        due.is("16 were made", p.payOut(1000, 0), FULL);
        due.is("four coins are free", p.sum(1), 4000);
        p.drop(3);
        due.is("dropped ones count", p.payOut(1000, 0), FULL);
        p.plant(1);
        due.is("for good", p.payOut(1000, 0), FULL);
        p.look();
    }

    /** Promise 22: wrong inputs. */
    private static void draftWrongly(Due due) {
        Pair p = rich(due, 1);
        due.is("none yet", p.draft(0, 0), BAD);
        p.payOut(500, 0);
        due.is("draft -1", p.draft(-1, 0), BAD);
        due.is("draft 1", p.draft(1, 0), BAD);
        due.is("what -1", p.draft(0, -1), BAD);
        due.is("what 6", p.draft(0, 6), BAD);
        due.is("made", p.draft(0, 4), 1);
        p.sign(0);
        due.is("SIGNED", p.draft(0, 4), 2);
        p.send(0, 0, 0);
        due.is("sent", p.draft(0, 4), 3);
        p.drop(0);
        due.is("dropped", p.draft(0, 4), 0);
        due.is("its inputs still", p.draft(0, 0), 1);
        due.is("its rest still", p.draft(0, 3), 500);
    }

    /** Promise 23. */
    private static void sign(Due due) {
        Pair p = rich(due, 4);
        due.is("none such", p.sign(0), BAD);
        p.payOut(3000, 0);
        due.is("WITNESSES", p.sign(0), 3);
        due.is("it is SIGNED", p.sign(0), NONE);
        p.send(0, 0, 0);
        due.is("it was sent", p.sign(0), NONE);
        p.drop(0);
        due.is("it is dropped", p.sign(0), NONE);
        due.is("draft 1", p.sign(1), BAD);
        due.is("draft -1", p.sign(-1), BAD);
        p.payOut(1000, 0);
        p.drop(1);
        due.is("dropped before", p.sign(1), NONE);
        for (int i = 2; i < 14; i++) {
            int d = p.payOut(2000 + i, 1);
            due.is("WITNESSES", p.sign(d), 3);
            for (int at = 0; at < 2 + 99 + 48 + 291; at++) {
                p.draftByte(d, at);
            }
            due.is("RIGHT", p.check(d), 1);
            p.drop(d);
        }
    }

    /** Promise 24. */
    private static void draftBytes(Due due) {
        Pair p = rich(due, 2);
        due.is("none such", p.draftByte(0, 0), BAD);
        p.payOut(1500, 1);
        int body = 2 + 66 + 48;
        due.is("inputs", p.draftByte(0, 0), 2);
        due.is("outputs", p.draftByte(0, 67), 2);
        due.is("value", p.draftByte(0, 70) * 256 + p.draftByte(0, 71), 1500);
        due.is("address", p.draftByte(0, 75), 1500 & 255);
        due.is("byte -1", p.draftByte(0, -1), BAD);
        due.is("no WITNESS yet", p.draftByte(0, body), BAD);
        p.lookAtDrafts();
        p.sign(0);
        due.is("the first WITNESS", p.draftByte(0, body), p.key(0, 0, 0));
        due.is("the second WITNESS", p.draftByte(0, body + 97 + 32), p.key(0, 1, 32));
        due.is("behind the last", p.draftByte(0, body + 194), BAD);
        due.is("draft 1", p.draftByte(1, 0), BAD);
        due.is("draft -1", p.draftByte(-1, 0), BAD);
        p.lookAtDrafts();
        p.send(0, 0, 0);
        p.lookAtDrafts();
        p.drop(0);
        due.is("dropped", p.draftByte(0, 0), BAD);
    }

    /** Promise 25: wrong inputs. */
    private static void sendWrongly(Due due) {
        Pair p = rich(due, 1);
        due.is("none such", p.send(0, 0, 0), BAD);
        p.payOut(500, 0);
        int body = 2 + 33 + 48;
        due.is("draft -1", p.send(-1, 0, 0), BAD);
        due.is("not SIGNED", p.send(0, 0, 0), NONE);
        due.is("mask -1", p.send(0, 0, -1), BAD);
        due.is("mask 256", p.send(0, 0, 256), BAD);
        due.is("a place that is not there yet", p.send(0, body, 1), BAD);
        due.is("a place that is", p.send(0, body - 1, 1), NONE);
        due.is("place -1", p.send(0, -1, 1), BAD);
        p.sign(0);
        due.is("behind the end", p.send(0, body + 97, 1), BAD);
        due.is("place -1", p.send(0, -1, 1), BAD);
        due.is("SIGNED still", p.draft(0, 4), 2);
        due.is("without a mask any place", p.send(0, -1, 0), 1);
        due.is("sent", p.draft(0, 4), 3);
        due.is("once more, spoiled", p.send(0, body + 96, 1), 1);
        due.is("waiting", p.waiting(), 2);
        for (int i = 2; i < 12; i++) {
            p.send(0, body + 40, i);
        }
        due.is("BAD before FULL", p.send(0, 0, 256), BAD);
        due.is("12 wait", p.send(0, 0, 0), FULL);
        p.drop(0);
        due.is("dropped", p.send(0, 0, 0), NONE);
        due.is("a dropped one has no place", p.send(0, 0, 1), BAD);
        due.is("what was sent goes on", p.waiting(), 12);
        p.mine(1, 30);
        due.is("one was good", p.block(2, 5), 2);
        due.is("the others wait on", p.waiting(), 11);
    }

    private static void sendUnreadable(Due due) {
        Pair p = rich(due, 3);
        p.payOut(1500, 0);
        p.sign(0);
        due.is("2 inputs as 0", p.send(0, 0, 2), 0);
        due.is("sent, though thrown away", p.draft(0, 4), 3);
        due.is("nothing waits", p.waiting(), 0);
        for (int mask = 1; mask < 256; mask++) {
            due.is("another number of inputs", p.send(0, 0, mask), 0);
            due.is("another number of outputs", p.send(0, 67, mask), 0);
        }
        due.is("nothing waits", p.waiting(), 0);
        due.is("which output: it can be read", p.send(0, 33, 255), 1);
        due.is("one waits", p.waiting(), 1);
        p.mine(3, 30);
        due.is("it is not good", p.waiting(), 1);
    }

    /** Values are 1 .. 1,000,000,000. */
    private static void sendValues(Due due) {
        Pair p = rich(due, 1);
        p.payOut(256, 0);
        p.sign(0);
        int at = 2 + 33;
        due.is("256 as 0", p.send(0, at + 2, 1), 0);
        due.is("256 as 1,073,742,080", p.send(0, at, 64), 0);
        due.is("256 as 2^31 and more", p.send(0, at, 128), 0);
        due.is("256 as 536,871,168", p.send(0, at, 32), 1);
        due.is("256 as 257", p.send(0, at + 3, 1), 1);
        due.is("256 as 989,856,000", p.send(0, at, 0x3b), 1);
        due.is("256 as 1,006,633,216", p.send(0, at, 0x3c), 0);
        due.is("the rest of 744 as less", p.send(0, at + 24 + 2, 2), 1);
        due.is("waiting", p.waiting(), 4);
        p.mine(1, 30);
        due.is("none is good", p.waiting(), 4);
        p.drop(0);
        p.payOut(1, 0);
        p.sign(1);
        due.is("a value of 1", p.send(1, 0, 0), 1);
        p.mine(1, 31);
        due.is("it is good", p.payment(3, 1, 10), 1);
        due.is("the rest", p.payment(3, 1, 11), 999);
    }

    /** Promise 26. */
    private static void drop(Due due) {
        Pair p = rich(due, 2);
        due.is("none such", p.drop(0), BAD);
        p.payOut(1000, 0);
        due.is("LOCKED", p.sum(1), 1000);
        due.is("draft 1", p.drop(1), BAD);
        due.is("draft -1", p.drop(-1), BAD);
        due.is("dropped", p.drop(0), 1);
        due.is("LOCKED no more", p.sum(1), 2000);
        due.is("it is", p.drop(0), NONE);
        p.payOut(1000, 0);
        p.sign(1);
        p.send(1, 0, 0);
        due.is("dropped, though sent", p.drop(1), 1);
        due.is("what was sent goes on", p.waiting(), 1);
        due.is("free again", p.coin(0, 5), 0);
        p.payOut(1000, 0);
        due.is("another one locks it", p.coin(0, 5), 1);
        p.giveAll(p.mine(2, 30));
        due.is("the coin went", p.coin(-1, 0), 1);
        due.is("it is the other one", p.coin(0, 2), 1);
        p.look();
    }

    /** Promise 27. */
    private static void check(Due due) {
        Pair p = rich(due, 4);
        due.is("none such", p.check(0), BAD);
        p.payOut(3500, 0);
        due.is("not SIGNED", p.check(0), BAD);
        p.sign(0);
        due.is("RIGHT", p.check(0), 1);
        p.send(0, 200, 3);
        due.is("RIGHT, whatever was sent", p.check(0), 1);
        due.is("draft 1", p.check(1), BAD);
        due.is("draft -1", p.check(-1), BAD);
        p.drop(0);
        due.is("dropped", p.check(0), BAD);
        due.is("the makers find the same", p.waiting(), 1);
    }
}
