/** Promises 15 to 20: give, header, chain, last, coin, sum. */
public final class PurseTest {
    private static final int BAD = PurseHouse.BAD;
    private static final int NONE = PurseHouse.NONE;
    private static final int FULL = PurseHouse.FULL;

    public static void main(String[] args) {
        Due due = new Due("purse");
        giveWrongly(due);
        giveInOrder(due);
        spoiledFilter(due);
        spoiledBlock(due);
        everySpoiledHeaderByte(due);
        spoiledTimes(due);
        sixtyHeaders(due);
        headerWrongly(due);
        chainOfMostWork(due);
        workNotHeight(due);
        scanStops(due);
        scanGoesOnWithoutBlock(due);
        watchGrows(due);
        watchEndsAt31(due);
        coinsComeAndGo(due);
        undone(due);
        coinWrongly(due);
        due.end();
    }

    /** Promise 15: wrong inputs. */
    private static void giveWrongly(Due due) {
        Pair p = new Pair(due);
        p.mine(0, 10);
        due.is("block 2", p.give(2, 0, 0, 0), BAD);
        due.is("block -1", p.give(-1, 0, 0, 0), BAD);
        due.is("what -1", p.give(1, -1, 0, 0), BAD);
        due.is("what 3", p.give(1, 3, 0, 0), BAD);
        due.is("mask -1", p.give(1, 0, 0, -1), BAD);
        due.is("mask 256", p.give(1, 0, 0, 256), BAD);
        due.is("place -1", p.give(1, 0, -1, 1), BAD);
        due.is("place 105 of a header", p.give(1, 0, 105, 1), BAD);
        due.is("place 0 of a header", p.give(1, 0, 0, 1), 0);
        due.is("no place behind the filter", p.give(1, 1, p.block(1, 6), 1), BAD);
        due.is("no place behind the block", p.give(1, 2, 28, 1), BAD);
        due.is("place 27 of a block", p.give(1, 2, 27, 1), 0);
        due.is("without a mask any place", p.give(1, 0, -7, 0), 1);
        due.is("without a mask any place", p.give(1, 1, 7777, 0), 1);
        due.is("without a mask any place", p.give(1, 2, Integer.MAX_VALUE, 0), 1);
        due.is("a wrong place of what it had", p.give(1, 2, 28, 1), BAD);
    }

    private static void giveInOrder(Due due) {
        Pair p = new Pair(due);
        p.mine(0, 10);
        p.mine(1, 10);
        due.is("header 0 is known", p.give(0, 0, 0, 0), 2);
        due.is("the one before is not known", p.give(2, 0, 0, 0), 0);
        due.is("a filter without a header", p.give(2, 1, 0, 0), 0);
        due.is("a block without a header", p.give(2, 2, 0, 0), 0);
        due.is("header 1", p.give(1, 0, 0, 0), 1);
        due.is("once more", p.give(1, 0, 0, 0), 2);
        due.is("header 2", p.give(2, 0, 0, 0), 1);
        due.is("block before filter", p.give(2, 2, 0, 0), 1);
        due.is("once more", p.give(2, 2, 0, 0), 2);
        due.is("no filter yet", p.header(2, 3), 0);
        due.is("filter", p.give(2, 1, 0, 0), 1);
        due.is("once more", p.give(2, 1, 0, 0), 2);
        due.is("filter of header 0", p.give(0, 1, 0, 0), 1);
        due.is("block of header 0", p.give(0, 2, 0, 0), 1);
        p.lookAtMade();
        p.look();
    }

    private static void spoiledFilter(Due due) {
        Pair p = new Pair(due);
        for (int place = 0; place < p.block(0, 6); place++) {
            due.is("spoiled", p.give(0, 1, place, 1 + place), 0);
        }
        due.is("refused", p.header(0, 3), 0);
        due.is("taken", p.give(0, 1, 0, 0), 1);
        due.is("it had that, whatever is spoiled", p.give(0, 1, 0, 255), 2);
    }

    private static void spoiledBlock(Due due) {
        Pair p = new Pair(due);
        p.plant(1);
        p.giveAll(0);
        p.mineFor(0, 10, 0, 0);
        int d = p.payOut(500, 1);
        p.sign(d);
        p.send(d, 0, 0);
        p.mine(1, 10);
        p.give(2, 0, 0, 0);
        p.give(2, 1, 0, 0);
        int body = 28 + 2 + 33 + 48;
        for (int place = 0; place < body; place++) {
            due.is("spoiled at " + place, p.give(2, 2, place, 1 << place % 8), 0);
        }
        due.is("WANTED", p.chain(4), 2);
        due.is("a spoiled WITNESS does not count", p.give(2, 2, body, 255), 1);
        due.is("it had that, whatever is spoiled", p.give(2, 2, 0, 1), 2);
        due.is("nothing is missing", p.chain(4), 0);
        due.is("the rest", p.sum(0), 1000 - 500 - 180);
        due.is("behind the last WITNESS", p.give(2, 2, body + 97, 1), BAD);
        p.look();
    }

    /** Some spoiled NONCES and TIMES are proved by chance: then they are taken. */
    private static void everySpoiledHeaderByte(Due due) {
        Pair p = new Pair(due);
        p.mine(0, 100);
        int taken = 0;
        for (int place = 0; place < 105; place++) {
            int before = p.chain(2);
            int got = p.give(1, 0, place, 1 << place % 8);
            taken += got == 1 ? 1 : 0;
            due.is("headers", p.chain(2), before + (got == 1 ? 1 : 0));
            if (place < 32 || place == 100) {
                due.is("another one before, or another D", got, 0);
            }
            if (got == 1) {
                due.is("no block is that", p.header(before, 5), NONE);
                due.is("as given it is known", p.give(1, 0, place, 1 << place % 8), 2);
            }
        }
        due.yes("some are taken", taken > 0);
        due.is("as it is", p.give(1, 0, 0, 0), 1);
        due.is("a filter goes to the block's own header", p.give(1, 1, 0, 0), 1);
        int own = p.chain(2) - 1;
        due.is("that is the last one", p.header(own, 5), 1);
        due.is("it has the filter", p.header(own, 3), 1);
        due.is("no other has", p.header(own - 1, 3), 0);
        p.lookAtMade();
    }

    private static void spoiledTimes(Due due) {
        Pair p = new Pair(due);
        p.mine(0, 100);
        p.giveAll(1);
        p.mine(1, 0);
        int taken = 0;
        for (int mask = 1; mask < 256 && p.chain(2) < 59; mask++) {
            int got = p.give(2, 0, 99, mask);
            taken += got == 1 ? 1 : 0;
            if ((100 ^ mask) < 100) {
                due.is("TIME " + (100 ^ mask) + " behind 100", got, 0);
            }
            if (mask >= 128) {
                due.is("TIME of 2^31 and more", p.give(2, 0, 96, mask), 0);
            }
        }
        due.yes("some are taken", taken > 0);
        p.lookAtMade();
    }

    private static void sixtyHeaders(Due due) {
        Pair p = new Pair(due);
        p.mine(0, 10);
        p.mine(0, 20);
        for (int mask = 1; mask < 256 && p.chain(2) < 60; mask++) {
            p.give(1, 0, 104, mask);
            p.give(1, 0, 103, mask);
        }
        due.is("headers", p.chain(2), 60);
        due.is("it would be taken", p.give(2, 0, 0, 0), FULL);
        due.is("it would not", p.give(2, 0, 0, 1), 0);
        due.is("it is known", p.give(0, 0, 0, 0), 2);
        due.is("headers", p.chain(2), 60);
        due.is("the chain: the first of equal work", p.chain(0), 1);
        due.is("its filter can't be", p.give(2, 1, 0, 0), 0);
        p.plant(1);
        p.give(0, 1, 0, 0);
        p.look();
        p.lookAtMade();
    }

    /** Promise 16: wrong inputs. */
    private static void headerWrongly(Due due) {
        Pair p = new Pair(due);
        due.is("header -1", p.header(-1, 0), BAD);
        due.is("header 1", p.header(1, 0), BAD);
        due.is("what -1", p.header(0, -1), BAD);
        due.is("what 14", p.header(0, 14), BAD);
        due.is("the first", p.header(0, 0), NONE);
        for (int i = 0; i < 8; i++) {
            due.is("the ID", p.header(0, 6 + i), p.block(0, 8 + i));
        }
    }

    /** Promise 17: the chain. */
    private static void chainOfMostWork(Due due) {
        Pair p = new Pair(due);
        due.is("what -1", p.chain(-1), BAD);
        due.is("what 6", p.chain(6), BAD);
        due.is("no seed", p.chain(4), BAD);
        due.is("no seed", p.chain(5), BAD);
        p.plant(1);
        due.is("what -1", p.chain(-1), BAD);
        due.is("what 6", p.chain(6), BAD);
        p.mine(0, 10);
        p.mine(0, 11);
        p.mine(2, 12);
        p.give(2, 0, 0, 0);
        p.give(1, 0, 0, 0);
        due.is("the one taken first", p.chain(0), 1);
        due.is("that is block 2", p.header(1, 5), 2);
        p.mine(1, 10);
        p.give(4, 0, 0, 0);
        due.is("more work", p.chain(0), 3);
        due.is("HEIGHT", p.chain(1), 2);
        due.is("headers", p.chain(2), 4);
        p.give(3, 0, 0, 0);
        due.is("equal work", p.chain(0), 3);
        p.mine(3, 10);
        p.give(5, 0, 0, 0);
        due.is("more work", p.chain(0), 5);
        p.lookAtMade();
    }

    /** A chain of less height may have more work. */
    private static void workNotHeight(Due due) {
        Pair p = new Pair(due);
        int slow = 0;
        for (int i = 0; i < 13; i++) {
            slow = p.mine(slow, 1000);
            p.give(slow, 0, 0, 0);
        }
        due.is("HEIGHT", p.chain(1), 13);
        int fast = 0;
        for (int i = 0; i < 8; i++) {
            fast = p.mine(fast, 0);
            p.give(fast, 0, 0, 0);
        }
        due.yes("more work", p.block(fast, 7) > p.block(slow, 7));
        due.is("less HEIGHT", p.chain(1), 8);
        p.look();
        p.lookAtMade();
    }

    private static void scanStops(Due due) {
        Pair p = new Pair(due);
        p.plant(1);
        due.is("at HEIGHT 0", p.chain(3), 0);
        due.is("the filter is missing", p.chain(4), 1);
        due.is("of HEADER 0", p.chain(5), 0);
        p.give(0, 1, 0, 0);
        due.is("to the end", p.chain(3), NONE);
        due.is("nothing is missing", p.chain(4), 0);
        due.is("no HEADER", p.chain(5), NONE);
        p.address(0, 0);
        p.mine(0, 10);
        p.mine(1, 10);
        p.give(1, 0, 0, 0);
        p.give(2, 0, 0, 0);
        p.give(2, 1, 0, 0);
        due.is("at HEIGHT 1", p.chain(3), 1);
        due.is("the filter is missing", p.chain(4), 1);
        p.give(1, 1, 0, 0);
        due.is("at HEIGHT 1", p.chain(3), 1);
        due.is("the block is WANTED", p.chain(4), 2);
        due.is("of HEADER 1", p.chain(5), 1);
        due.is("no coin", p.coin(-1, 0), 0);
        due.is("none used", p.last(0), -1);
        p.give(1, 2, 0, 0);
        due.is("to the end", p.chain(3), NONE);
        due.is("a coin", p.coin(-1, 0), 1);
        due.is("used", p.last(0), 0);
        due.is("branch 1", p.last(1), -1);
        due.is("branch -1", p.last(-1), BAD);
        due.is("branch 2", p.last(2), BAD);
        due.is("sum", p.sum(0), 1000);
    }

    /** A block whose filter meets nothing is not needed. */
    private static void scanGoesOnWithoutBlock(Due due) {
        Pair p = new Pair(due);
        p.plant(5);
        p.give(0, 1, 0, 0);
        int before = 0;
        int wanted = 0;
        for (int i = 0; i < 20; i++) {
            p.feed(i, i, i, i, i);
            before = p.mine(before, 30);
            p.give(before, 0, 0, 0);
            p.give(before, 1, 0, 0);
            if (p.chain(4) == 2) {
                wanted++;
                p.give(before, 2, 0, 0);
            }
        }
        due.yes("most are not wanted", wanted < 10);
        due.is("to the end", p.chain(3), NONE);
        due.is("no coin", p.coin(-1, 0), 0);
        p.mineFor(before, 30, 1, 2);
        due.is("a coin for change", p.coin(0, 1), 1);
        due.is("its KEY", p.coin(0, 2), 2);
        due.is("its HEIGHT", p.coin(0, 3), 21);
        p.look();
    }

    /** Promise 18 and the scan: a payment in one block that makes the purse look further in the same. */
    private static void watchGrows(Due due) {
        Pair p = new Pair(due);
        p.plant(1);
        p.gap(1);
        p.giveAll(0);
        p.mineFor(0, 30, 0, 0);
        p.mineFor(1, 30, 0, 1);
        due.is("LAST", p.last(0), 1);
        p.mineFor(2, 30, 0, 3);
        due.is("too far", p.last(0), 1);
        payOwn(p, 900, 0, 4);
        payOwn(p, 800, 0, 3);
        p.cut(p.cut(0));
        p.address(0, 2);
        int b = p.mine(3, 30);
        due.is("payments", p.block(b, 5), 3);
        p.giveAll(b);
        due.is("LAST", p.last(0), 4);
        due.is("as they came: the mint", p.coin(0, 2), 2);
        due.is("KEY 4", p.coin(1, 2), 4);
        p.look();
        p.gap(2);
        due.is("the coin of block 3, too", p.coin(0, 2), 3);
        p.look();
    }

    private static void payOwn(Pair p, int amount, int branch, int k) {
        p.cut(p.cut(0));
        p.address(branch, k);
        int d = p.pay(amount, 0);
        p.sign(d);
        p.send(d, 0, 0);
    }

    private static void watchEndsAt31(Due due) {
        Pair p = new Pair(due);
        p.plant(1);
        p.gap(8);
        p.giveAll(0);
        int before = 0;
        for (int k = 7; k < 32; k += 8) {
            before = p.mineFor(before, 30, 0, k);
            before = p.mineFor(before, 30, 1, k);
            due.is("LAST", p.last(0), k);
            due.is("LAST", p.last(1), k);
        }
        p.gap(8);
        p.look();
        int d = p.payOut(100, 1);
        due.is("the rest is for KEY 31", p.draft(d, 1), 2);
        p.sign(d);
        p.send(d, 0, 0);
        p.giveAll(p.mine(before, 30));
        due.is("coins", p.coin(-1, 0), 8);
        due.is("branch", p.coin(7, 1), 1);
        due.is("KEY", p.coin(7, 2), 31);
        due.is("output", p.coin(7, 4), 1);
        p.look();
    }

    /** Promises 19 and 20. */
    private static void coinsComeAndGo(Due due) {
        Pair p = new Pair(due);
        p.plant(1);
        p.giveAll(0);
        p.mineFor(0, 30, 0, 0);
        p.mineFor(1, 30, 0, 1);
        p.mineFor(2, 30, 1, 0);
        due.is("coins", p.coin(-1, 0), 3);
        due.is("first word of the ID", p.coin(2, 6), p.payment(3, 0, 2));
        int d = p.payOut(400, 2);
        due.is("LOCKED", p.coin(0, 5), 1);
        due.is("not LOCKED", p.coin(1, 5), 0);
        due.is("all", p.sum(0), 3000);
        due.is("not LOCKED", p.sum(1), 2000);
        p.sign(d);
        p.send(d, 0, 0);
        due.is("LOCKED still", p.sum(1), 2000);
        p.giveAll(p.mine(3, 30));
        due.is("coins", p.coin(-1, 0), 3);
        due.is("the rest came last", p.coin(2, 0), 1000 - 400 - 2 * 180);
        due.is("for change", p.coin(2, 1), 1);
        due.is("behind LAST", p.coin(2, 2), 1);
        due.is("LAST", p.last(1), 1);
        due.is("the first is gone", p.coin(0, 2), 1);
        due.is("all", p.sum(0), 2240);
        due.is("all", p.sum(1), 2240);
        p.look();
    }

    /** Another chain takes back what was. */
    private static void undone(Due due) {
        Pair p = new Pair(due);
        p.plant(1);
        p.giveAll(0);
        p.mineFor(0, 30, 0, 0);
        int d = p.payOut(400, 0);
        p.sign(d);
        p.send(d, 0, 0);
        p.giveAll(p.mine(1, 30));
        due.is("the rest", p.sum(0), 600);
        p.mineFor(1, 30, 0, 1);
        due.is("equal work", p.sum(0), 600);
        p.mineFor(3, 30, 0, 2);
        due.is("the other chain", p.sum(0), 3000);
        due.is("LOCKED by what was sent", p.sum(1), 2000);
        due.is("no change", p.last(1), -1);
        p.drop(d);
        due.is("LOCKED no more", p.sum(1), 3000);
        p.giveAll(p.mine(2, 30));
        p.giveAll(p.mine(5, 30));
        due.is("back again", p.sum(0), 600);
        due.is("change", p.last(1), 0);
        p.look();
    }

    private static void coinWrongly(Due due) {
        Pair p = new Pair(due);
        due.is("no seed", p.coin(0, 0), BAD);
        due.is("no seed", p.sum(1), BAD);
        p.plant(1);
        p.giveAll(0);
        p.mineFor(0, 30, 0, 0);
        due.is("coin 1", p.coin(1, 0), BAD);
        due.is("coin -2", p.coin(-2, 0), BAD);
        due.is("coin -1", p.coin(-1, 1), BAD);
        due.is("coin -1", p.coin(-1, -1), BAD);
        due.is("what -1", p.coin(0, -1), BAD);
        due.is("what 7", p.coin(0, 7), BAD);
        due.is("sum -1", p.sum(-1), BAD);
        due.is("sum 2", p.sum(2), BAD);
    }
}
