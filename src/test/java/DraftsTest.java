import java.util.Arrays;

/** Promises 21 and 22 (pay, draft) and what 6 DRAFTS says. */
public final class DraftsTest {
    private static final int BAD = PurseHouse.BAD;
    private static final int NONE = PurseHouse.NONE;
    private static final int FULL = PurseHouse.FULL;

    public static void main(String[] args) {
        Due due = new Due("drafts");
        payWrongly(due);
        tapeOfTwenty(due);
        refused(due);
        badThenFullThenNone(due);
        rates(due);
        sixteen(due);
        sixtyMore(due);
        sixtyMoreWithFee(due);
        noneBehindEnough(due);
        noneBehindFour(due);
        rowsInOrder(due);
        twoThousandth(due);
        greatestOnes(due);
        restEdges(due);
        noRoomForRest(due);
        restGoesBehindLast(due);
        smallCoins(due);
        lockedCoins(due);
        greatestFirst(due);
        equalOnesAsTheyCame(due);
        draftWrongly(due);
        draftStates(due);
        due.end();
    }

    /** Splits coins of 1,000: each amount goes to KEY 0, and the rest of it is change. */
    private static void split(Pair p, int... amounts) {
        for (int amount : amounts) {
            int d = p.payOwn(amount, 0, 0);
            p.due.is("a rest", p.draft(d, 3), 1000 - amount);
            p.signAndSend(d);
            p.mineOn(p.y.made.size() - 1);
        }
    }

    /** All coins of a purse come together as one. */
    private static Pair oneCoin(Due due, int n) {
        Pair p = Pair.rich(due, n);
        p.signAndSend(p.payOwn(1000 * n, 0, 0));
        p.mineOn(n);
        due.is("one coin", p.coin(-1, 0), 1);
        due.is("its value", p.coin(0, 0), 1000 * n);
        return p;
    }

    /** Promise 21: "BAD: no seed, amount, rate, fewer than 20 bytes .. the tape stays with all". */
    private static void payWrongly(Due due) {
        Pair p = new Pair(due);
        p.feed(1, 2, 3, 4, 5);
        due.is("no seed", p.pay(1, 1), BAD);
        due.is("the tape stays", p.cut(0), 20);
        p = Pair.rich(due, 1);
        p.feed(1, 2, 3, 4, 5);
        int tape = p.hash(0, 0);
        for (int amount : new int[] {0, -1, 1000001, Integer.MIN_VALUE, Integer.MAX_VALUE}) {
            due.is("amount " + amount, p.pay(amount, 0), BAD);
        }
        for (int rate : new int[] {-1, 10, Integer.MIN_VALUE, Integer.MAX_VALUE}) {
            due.is("rate " + rate, p.pay(1, rate), BAD);
        }
        due.is("the tape stays", p.cut(0), 20);
        due.is("the tape stays", p.hash(0, 0), tape);
        due.is("amount 1,000,000 is one, but refused", p.pay(1000000, 0), NONE);
        due.is("no draft was made", p.draft(0, 0), BAD);
        due.is("amount 1", p.pay(1, 0), 0);
        due.is("the rest", p.draft(0, 3), 999);
    }

    /** "to the tape's first 20 bytes (the tape is empty then, if it is not refused)". */
    private static void tapeOfTwenty(Due due) {
        Pair p = Pair.rich(due, 3);
        due.is("no bytes", p.pay(1, 0), BAD);
        p.feed(1, 2, 3, 4, 5);
        p.cut(1);
        int tape = p.hash(0, 0);
        due.is("19 bytes", p.pay(1, 0), BAD);
        due.is("the tape stays", p.cut(0), 19);
        due.is("the tape stays", p.hash(0, 0), tape);
        p.cut(19);
        for (int n = 20; n <= 40; n += 10) {
            p.feed(0x01020304, 0x05060708, 0x090a0b0c, 0x0d0e0f10, 0x11121314);
            if (n > 20) {
                p.feed(-1, -1, -1, -1, -1);
                p.cut(40 - n);
            }
            int d = p.pay(1000, 0);
            due.is("the tape is empty", p.cut(0), 0);
            for (int i = 0; i < 20; i++) {
                due.is("ADDRESS", p.draftByte(d, 2 + 33 + 4 + i), 1 + i);
            }
        }
    }

    /** "NONE: refused .. the tape stays": one coin of 1,000 is too little by one. */
    private static void refused(Due due) {
        Pair p = Pair.rich(due, 1);
        p.feed(1, 2, 3, 4, 5);
        int tape = p.hash(0, 0);
        due.is("more than it has", p.pay(1001, 0), NONE);
        due.is("more than it has with its FEE", p.pay(1000 - 156 + 1, 1), NONE);
        due.is("the tape stays", p.cut(0), 20);
        due.is("the tape stays", p.hash(0, 0), tape);
        due.is("nothing is LOCKED", p.sum(1), 1000);
        due.is("just enough; what was refused has no number", p.pay(1000 - 156, 1), 0);
        due.is("the tape is empty", p.cut(0), 0);
        due.is("FEE", p.draft(0, 2), 156);
        due.is("LOCKED", p.sum(1), 0);
        due.is("no coin is left", p.payOut(1, 0), NONE);
        Pair q = new Pair(due);
        q.plant(1);
        due.is("no coin at all", q.payOut(1, 0), NONE);
    }

    /** "(In this order; the tape stays with all.)" */
    private static void badThenFullThenNone(Due due) {
        Pair p = Pair.rich(due, 1);
        for (int i = 0; i < 16; i++) {
            due.is("a draft", p.payOut(1000, 0), i);
            p.drop(i);
        }
        p.feed(1, 2, 3, 4, 5);
        int tape = p.hash(0, 0);
        due.is("BAD before FULL", p.pay(0, 0), BAD);
        due.is("BAD before FULL", p.pay(1, 10), BAD);
        due.is("FULL", p.pay(1, 0), FULL);
        due.is("FULL before NONE", p.pay(1000000, 0), FULL);
        due.is("the tape stays", p.cut(0), 20);
        due.is("the tape stays", p.hash(0, 0), tape);
        p.cut(1);
        due.is("BAD before FULL", p.pay(1, 0), BAD);
        due.is("the tape stays", p.cut(0), 19);
    }

    /** A rate is 0 .. 9, and "the FEE of k inputs and m outputs is rate times (2 + 130 k + 24 m)". */
    private static void rates(Due due) {
        Pair p = oneCoin(due, 4);
        for (int rate = 0; rate <= 9; rate++) {
            int d = p.payOut(100, rate);
            due.is("outputs", p.draft(d, 1), 2);
            due.is("FEE(1, 2)", p.draft(d, 2), rate * 180);
            due.is("the rest", p.draft(d, 3), 3900 - rate * 180);
            p.drop(d);
        }
        int d = p.payOut(4000 - 9 * 156, 9);
        due.is("outputs", p.draft(d, 1), 1);
        due.is("FEE(1, 1)", p.draft(d, 2), 9 * 156);
        p.drop(d);
        due.is("one more", p.payOut(4000 - 9 * 156 + 1, 9), NONE);
        p.lookAtDrafts(5);
    }

    /** "FULL: 16 were made (dropped ones count, for good)". */
    private static void sixteen(Due due) {
        Pair p = Pair.rich(due, 18);
        for (int i = 0; i < 16; i++) {
            due.is("the DRAFT's number", p.payOut(1000 - i, 0), i);
        }
        due.is("16 were made", p.payOut(1000, 0), FULL);
        due.is("two coins are free", p.sum(1), 2000);
        p.drop(3);
        due.is("dropped ones count", p.payOut(1000, 0), FULL);
        p.plant(1);
        due.is("for good", p.payOut(1000, 0), FULL);
        due.is("no draft 16", p.draft(16, 0), BAD);
        due.is("draft 15", p.draft(15, 0), 1);
        p.look();
    }

    /** (a) "if it is at most 60 more, it is the one .. there is one output, and what is more is FEE, too". */
    private static void sixtyMore(Due due) {
        for (int above = 0; above <= 62; above += above < 58 ? 29 : 1) {
            Pair p = Pair.rich(due, 3);
            int d = p.payOut(1000 - above, 0);
            due.is("inputs", p.draft(d, 0), 1);
            due.is("outputs", p.draft(d, 1), above > 60 ? 2 : 1);
            due.is("FEE", p.draft(d, 2), above > 60 ? 0 : above);
            due.is("the rest", p.draft(d, 3), above > 60 ? above : 0);
            due.is("looks", p.draft(d, 5), above > 60 ? 6 : 1);
        }
    }

    /** The same above amount and FEE(k, 1), for each k. */
    private static void sixtyMoreWithFee(Due due) {
        for (int k = 1; k <= 4; k++) {
            for (int above = -1; above <= 61; above += above < 0 || above == 60 ? 1 : 30) {
                Pair p = Pair.rich(due, 4);
                int d = p.payOut(1000 * k - 2 * (26 + 130 * k) - above, 2);
                if (k == 4 && above < 0) {
                    due.is("refused", d, NONE);
                    continue;
                }
                boolean row = above >= 0 && above <= 60;
                due.is("inputs", p.draft(d, 0), above < 0 ? k + 1 : k);
                due.is("FEE with what is more", p.draft(d, 2), above < 0 ? 2 * (50 + 130 * (k + 1))
                        : 2 * (26 + 130 * k) + above);
                due.yes("looks", p.draft(d, 5) == k == row);
                due.is("outputs", p.draft(d, 1), above < 0 ? 2 : 1);
            }
        }
    }

    /** "else none is taken behind it": each of three is taken, and left. */
    private static void noneBehindEnough(Due due) {
        Pair p = Pair.rich(due, 3);
        int d = p.payOut(900, 0);
        due.is("taken and left, each one alone", p.draft(d, 5), 6);
        p.drop(d);
        d = p.payOut(1900, 0);
        due.is("rows of two, and none behind them", p.draft(d, 5), 2 * (3 + 3));
        p.drop(d);
        d = p.payOut(2900, 0);
        due.is("rows of three", p.draft(d, 5), 2 * (3 + 3 + 1));
        p.drop(d);
        due.is("too much for all rows", p.payOut(3001, 0), NONE);
        d = p.payOut(2000, 0);
        due.is("the second that is taken does it", p.draft(d, 5), 2);
    }

    /** "nor behind a row of 4". */
    private static void noneBehindFour(Due due) {
        Pair p = Pair.rich(due, 6);
        int d = p.payOut(3900, 0);
        due.is("rows of four, and none behind them", p.draft(d, 5), 2 * (6 + 15 + 20 + 15));
        due.is("inputs", p.draft(d, 0), 4);
        p.drop(d);
        due.is("five would do", p.payOut(4001, 0), NONE);
        due.is("five would do", p.payOut(5000, 0), NONE);
        d = p.payOut(4000, 0);
        due.is("the fourth that is taken does it", p.draft(d, 5), 4);
        due.is("inputs", p.draft(d, 0), 4);
    }

    /** The first row in their order is the one, not the best; what was chosen is named in that order. */
    private static void rowsInOrder(Due due) {
        Pair p = Pair.rich(due, 4);
        split(p, 250, 300, 120);
        p.look();
        for (int amount = 50; amount < 2600 && p.y.drafts.size() < 16; amount += 233) {
            int d = p.payOut(amount, amount % 3);
            if (d >= 0) {
                p.draft(d, 5);
                p.drop(d);
            }
        }
        p.lookAtDrafts(7);
    }

    /** "Each coin that is taken, or left, counts; behind the 2,000th that is given up (it is done still)." */
    private static void twoThousandth(Due due) {
        Pair p = Pair.rich(due, 12);
        int d = p.payOut(3500, 0);
        due.is("all rows of 12", p.draft(d, 5), 2 * (12 + 66 + 220 + 495));
        p.drop(d);
        p.mineFor(12, 30, 0, 12);
        d = p.payOut(3500, 0);
        due.is("not all rows of 13", p.draft(d, 5), 2000);
        due.is("the greatest ones then", p.draft(d, 3), 500);
        rowAt(due, 1999, 1822, 18, 208, 439, 488, 254, 255);
        rowAt(due, 2000, 2318, 12, 288, 301, 115, 125);
        rowAt(due, 2001, 2125, 13, 219, 310, 316, 102);
    }

    /** A purse in which the right row is complete with just so many coins taken and left. */
    private static void rowAt(Due due, int looks, int amount, int coins, int... splits) {
        Pair p = Pair.rich(due, coins);
        split(p, splits);
        due.is("coins", p.coin(-1, 0), coins + splits.length);
        int d = p.payOut(amount, 0);
        boolean found = looks <= 2000;
        due.is("looks", p.draft(d, 5), found ? looks : 2000);
        due.is("outputs", p.draft(d, 1), found ? 1 : 2);
        due.yes("FEE", found ? p.draft(d, 2) <= 60 : p.draft(d, 2) == 0);
        due.yes("the rest", found == (p.draft(d, 3) == 0));
        p.lookAtDrafts(7);
    }

    /** (b) "the greatest ones, as few as have the amount and FEE(k, 1), 4 at most". */
    private static void greatestOnes(Due due) {
        Pair p = Pair.rich(due, 6);
        int d = p.payOut(3500, 0);
        due.is("four coins", p.draft(d, 0), 4);
        due.is("the rest", p.draft(d, 3), 500);
        due.is("two are free", p.sum(1), 2000);
        due.is("more than these have", p.payOut(2001, 0), NONE);
        p.drop(d);
        due.is("more than four coins have", p.payOut(4001, 0), NONE);
        d = p.payOut(4000, 0);
        due.is("all of four", p.draft(d, 2), 0);
        p.drop(d);
        d = p.payOut(3000 - 2 * 416 - 61, 2);
        due.is("three do with their FEE", p.draft(d, 0), 3);
        p.drop(d);
        d = p.payOut(3000 - 2 * 416 + 1, 2);
        due.is("three do not do with their FEE", p.draft(d, 0), 4);
        p.signAndSend(d);
        p.giveAll(p.mine(6, 30));
        p.look();
        p.lookAtDrafts(7);
        p.lookAtMade(7);
    }

    /** (b) "if these have more than 60 above the amount and FEE(k, 2), there is a second output .. else one". */
    private static void restEdges(Due due) {
        for (int above = 58; above <= 63; above++) {
            Pair p = Pair.rich(due, 1);
            int d = p.payOut(1000 - 3 * 180 - above, 3);
            due.is("outputs", p.draft(d, 1), above > 60 ? 2 : 1);
            due.is("FEE", p.draft(d, 2), above > 60 ? 540 : 540 + above);
            due.is("rest", p.draft(d, 3), above > 60 ? above : 0);
            due.is("looks", p.draft(d, 5), 2);
            p.lookAtDrafts();
        }
    }

    /** (b) with less than the FEE of a second output: then there is none. */
    private static void noRoomForRest(Due due) {
        for (int above = 59; above < 120; above += 15) {
            Pair p = Pair.rich(due, 2);
            int d = p.payOut(1000 - 5 * 156 - above, 5);
            due.is("inputs", p.draft(d, 0), 1);
            due.is("outputs", p.draft(d, 1), 1);
            due.is("FEE", p.draft(d, 2), 780 + above);
            due.is("looks", p.draft(d, 5), above > 60 ? 4 : 1);
        }
    }

    private static void restIsFor(Pair p, int k) {
        int d = p.payOut(500, 0);
        byte[] address = p.y.own.get(1, k).address();
        p.due.is("outputs", p.draft(d, 1), 2);
        for (int i = 0; i < 20; i++) {
            p.due.is("the rest is for KEY " + k, p.draftByte(d, 2 + 33 + 24 + 4 + i), address[i] & 255);
        }
        p.drop(d);
    }

    /** "for the KEY of BRANCH 1 behind LAST (31 at most)". */
    private static void restGoesBehindLast(Due due) {
        Pair p = new Pair(due);
        p.plant(1);
        p.gap(8);
        p.giveAll(0);
        p.mineFor(0, 30, 0, 5);
        restIsFor(p, 0);
        int before = 1;
        for (int k : new int[] {0, 7, 14, 22, 29, 30, 31}) {
            before = p.mineFor(before, 30, 1, k);
            due.is("LAST", p.last(1), k);
            restIsFor(p, Math.min(k + 1, 31));
        }
    }

    /** "Coins count that .. have more than 130 times the rate": one less, just that, one more. */
    private static void smallCoins(Due due) {
        for (int value = 259; value <= 261; value++) {
            Pair p = Pair.rich(due, 1);
            split(p, value);
            due.is("looks", p.draft(p.payOut(200, 2), 5), value > 260 ? 4 : 2);
        }
        for (int value = 1169; value <= 1171; value++) {
            Pair p = oneCoin(due, 4);
            int d = p.payOwn(value, 0, 0);
            p.signAndSend(d);
            p.mineOn(p.y.made.size() - 1);
            due.is("looks", p.draft(p.payOut(200, 9), 5), value > 1170 ? 4 : 2);
        }
        Pair p = Pair.rich(due, 1);
        split(p, 1);
        due.is("with rate 0 a coin of 1 counts", p.draft(p.payOut(500, 0), 5), 4);
    }

    /** "Coins count that are not LOCKED". */
    private static void lockedCoins(Due due) {
        Pair p = Pair.rich(due, 3);
        due.is("three count", p.draft(p.payOut(900, 0), 5), 6);
        due.is("two count", p.draft(p.payOut(900, 0), 5), 4);
        due.is("one counts", p.draft(p.payOut(900, 0), 5), 2);
        due.is("none counts", p.payOut(900, 0), NONE);
        p.drop(1);
        due.is("one counts again", p.draft(p.payOut(900, 0), 5), 2);
    }

    private static int firstWord(Pair p, int d, int input) {
        byte[] word = new byte[4];
        for (int i = 0; i < 4; i++) {
            word[i] = (byte) p.draftByte(d, 1 + 33 * input + i);
        }
        return Reference.word(word, 0);
    }

    /** "the greatest first"; "Its payment names the coins in the order in which they were taken." */
    private static void greatestFirst(Due due) {
        Pair p = Pair.rich(due, 3);
        split(p, 400, 330);
        int[] values = {1000, 400, 600, 330, 670};
        for (int i = 0; i < 5; i++) {
            due.is("coins as they came", p.coin(i, 0), values[i]);
        }
        int d = p.payOut(1000 + 670 + 600, 0);
        due.is("three coins", p.draft(d, 0), 3);
        due.is("1,000", firstWord(p, d, 0), p.coin(0, 6));
        due.is("670", firstWord(p, d, 1), p.coin(4, 6));
        due.is("600", firstWord(p, d, 2), p.coin(2, 6));
        due.is("which output of 1,000", p.draftByte(d, 33), 0);
        due.is("which output of 670", p.draftByte(d, 66), 1);
        due.is("which output of 600", p.draftByte(d, 99), 1);
        p.drop(d);
        for (int amount : new int[] {1000, 670, 600, 400, 330}) {
            due.is("one coin", p.draft(p.payOut(amount, 0), 0), 1);
            p.look();
        }
        due.is("all are LOCKED", p.sum(1), 0);
    }

    /** "of equal ones as they came". */
    private static void equalOnesAsTheyCame(Due due) {
        Pair p = Pair.rich(due, 5);
        int d = p.payOut(3000, 0);
        for (int i = 0; i < 3; i++) {
            due.is("in order", firstWord(p, d, i), p.coin(i, 6));
        }
        int e = p.payOut(1500, 0);
        due.is("the next ones", firstWord(p, e, 0), p.coin(3, 6));
        due.is("the next ones", firstWord(p, e, 1), p.coin(4, 6));
        p.drop(d);
        d = p.payOut(500, 0);
        due.is("the first again", firstWord(p, d, 0), p.coin(0, 6));
    }

    /** Promise 22: "BAD: none such". */
    private static void draftWrongly(Due due) {
        Pair p = Pair.rich(due, 2);
        for (int what = 0; what < 6; what++) {
            due.is("none yet", p.draft(0, what), BAD);
        }
        p.payOut(500, 0);
        for (int d : new int[] {-1, 1, 15, 16, Integer.MIN_VALUE, Integer.MAX_VALUE}) {
            due.is("draft " + d, p.draft(d, 0), BAD);
        }
        for (int what : new int[] {-1, 6, Integer.MIN_VALUE, Integer.MAX_VALUE}) {
            due.is("what " + what, p.draft(0, what), BAD);
        }
        int[] want = {1, 2, 0, 500, 1, 4};
        for (int what = 0; what < 6; what++) {
            due.is("what " + what, p.draft(0, what), want[what]);
        }
        due.is("no draft 1 yet", p.draft(1, 0), BAD);
        due.is("a draft without a rest", p.payOut(1000, 0), 1);
        due.is("the rest's value (0)", p.draft(1, 3), 0);
        due.yes("a draft's bytes are its own", !Arrays.equals(p.y.drafts.get(0).bytes(), p.y.drafts.get(1).bytes()));
        p.lookAtDrafts();
    }

    /** "4 how it is: 1 made, 2 SIGNED, 3 it was sent, 0 dropped". */
    private static void draftStates(Due due) {
        Pair p = Pair.rich(due, 1);
        for (int last = 1; last <= 3; last++) {
            int d = p.payOut(500, 0);
            due.is("made", p.draft(d, 4), 1);
            if (last > 1) {
                p.sign(d);
                due.is("SIGNED", p.draft(d, 4), 2);
            }
            if (last > 2) {
                p.send(d, 0, 0);
                due.is("sent", p.draft(d, 4), 3);
            }
            p.drop(d);
            due.is("dropped", p.draft(d, 4), 0);
            due.is("its inputs still", p.draft(d, 0), 1);
            due.is("its rest still", p.draft(d, 3), 500);
        }
    }
}
