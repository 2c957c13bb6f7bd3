/** Promises 15 to 17 (give, header, chain) and what 5 THE PURSE says of what is taken. */
public final class PurseTest {
    private static final int BAD = PurseHouse.BAD;
    private static final int NONE = PurseHouse.NONE;
    private static final int FULL = PurseHouse.FULL;
    private static final int HEADER = 105;

    public static void main(String[] args) {
        Due due = new Due("purse");
        giveWrongly(due);
        placeEdges(due);
        anyPlaceWithoutMask(due);
        fromTheBeginning(due);
        giveInOrder(due);
        oneBeforeIsNotKnown(due);
        knownByIdAsGiven(due);
        everySpoiledHeaderByte(due);
        filterOfSpoiledHeader(due);
        spoiledFilter(due);
        spoiledBlock(due);
        spoiledCountsAsInTheBlock(due);
        sixtyHeaders(due);
        headerWrongly(due);
        headerFlags(due);
        chainWrongly(due);
        firstOfEqualWork(due);
        workNotHeight(due);
        spoiledChain(due);
        due.end();
    }

    /** Promise 15: "BAD: no such block, what; mask not 0 .. 255": and nothing is taken. */
    private static void giveWrongly(Due due) {
        Pair p = new Pair(due);
        p.mine(0, 10);
        for (int b : new int[] {-1, 2, 40, Integer.MIN_VALUE, Integer.MAX_VALUE}) {
            due.is("block " + b, p.give(b, 0, 0, 0), BAD);
        }
        for (int what : new int[] {-1, 3, Integer.MIN_VALUE, Integer.MAX_VALUE}) {
            due.is("what " + what, p.give(1, what, 0, 0), BAD);
        }
        for (int what = 0; what < 3; what++) {
            for (int mask : new int[] {-1, 256, Integer.MIN_VALUE, Integer.MAX_VALUE}) {
                due.is("mask " + mask, p.give(1, what, 0, mask), BAD);
                due.is("mask " + mask + " of what is known", p.give(0, what, 0, mask), BAD);
            }
        }
        due.is("headers", p.chain(2), 1);
        due.is("no filter", p.header(0, 3), 0);
        due.is("no block", p.header(0, 4), 0);
        due.yes("mask 255 is one", p.give(1, 0, 0, 255) == 0);
        due.yes("mask 1 is one", p.give(1, 0, 0, 1) == 0);
    }

    /** "no such place, if it [the mask] is above 0": of a header 0 .. 104, of a filter, of all payments together. */
    private static void placeEdges(Due due) {
        Pair p = Pair.rich(due, 1);
        p.signAndSend(p.payOut(500, 1));
        int b = p.mine(1, 10);
        int[] lengths = {HEADER, p.block(b, 6), 28 + 2 + 33 + 48 + 97};
        for (int round = 0; round < 2; round++) {
            for (int what = 0; what < 3; what++) {
                for (int mask : new int[] {1, 255}) {
                    due.is("place -1", p.give(b, what, -1, mask), BAD);
                    due.is("place", p.give(b, what, Integer.MIN_VALUE, mask), BAD);
                    due.is("place", p.give(b, what, Integer.MAX_VALUE, mask), BAD);
                    due.is("behind the last", p.give(b, what, lengths[what], mask), BAD);
                    due.yes("the first", p.give(b, what, 0, mask) >= 0);
                    due.yes("the last", p.give(b, what, lengths[what] - 1, mask) >= 0);
                }
            }
            p.giveAll(b);
        }
        due.is("behind the last of a mint alone", p.give(1, 2, 28, 1), BAD);
        due.is("the last of a mint alone", p.give(1, 2, 27, 1), 2);
    }

    /** With mask 0 nothing is spoiled, and any place will do. */
    private static void anyPlaceWithoutMask(Due due) {
        Pair p = new Pair(due);
        p.mine(0, 10);
        due.is("header", p.give(1, 0, -7, 0), 1);
        due.is("filter", p.give(1, 1, 7777, 0), 1);
        due.is("block", p.give(1, 2, Integer.MAX_VALUE, 0), 1);
        due.is("header", p.give(1, 0, HEADER, 0), 2);
        due.is("filter", p.give(1, 1, Integer.MIN_VALUE, 0), 2);
        due.is("block", p.give(1, 2, -1, 0), 2);
    }

    /** "knows the header of block 0 from the beginning": but not its filter, nor its block. */
    private static void fromTheBeginning(Due due) {
        Pair p = new Pair(due);
        due.is("headers", p.chain(2), 1);
        due.is("its block", p.header(0, 5), 0);
        due.is("no filter", p.header(0, 3), 0);
        due.is("no block", p.header(0, 4), 0);
        due.is("header", p.give(0, 0, 0, 0), 2);
        due.is("headers", p.chain(2), 1);
        due.is("filter", p.give(0, 1, 0, 0), 1);
        due.is("block", p.give(0, 2, 0, 0), 1);
        due.is("filter", p.header(0, 3), 1);
        due.is("block", p.header(0, 4), 1);
    }

    /** "1 taken, 2 it had that (of this block) already, 0 refused". */
    private static void giveInOrder(Due due) {
        Pair p = new Pair(due);
        p.mine(0, 10);
        p.mine(1, 10);
        due.is("header 1", p.give(1, 0, 0, 0), 1);
        due.is("once more", p.give(1, 0, 0, 0), 2);
        due.is("header 2", p.give(2, 0, 0, 0), 1);
        due.is("block before filter", p.give(2, 2, 0, 0), 1);
        due.is("once more", p.give(2, 2, 0, 0), 2);
        due.is("no filter yet", p.header(2, 3), 0);
        due.is("filter", p.give(2, 1, 0, 0), 1);
        due.is("once more", p.give(2, 1, 0, 0), 2);
        due.is("of block 1 it has none", p.give(1, 1, 0, 0), 1);
        due.is("of block 1 it has none", p.give(1, 2, 0, 0), 1);
        due.is("headers", p.chain(2), 3);
        p.lookAtMade();
        p.look();
    }

    /** "the one with the ID before it is known"; a filter, a block: "if the header .. is known". */
    private static void oneBeforeIsNotKnown(Due due) {
        Pair p = new Pair(due);
        p.mine(0, 10);
        p.mine(1, 10);
        due.is("header 2 without 1", p.give(2, 0, 0, 0), 0);
        for (int b = 1; b < 3; b++) {
            due.is("a filter without a header", p.give(b, 1, 0, 0), 0);
            due.is("a block without a header", p.give(b, 2, 0, 0), 0);
            due.is("a spoiled filter without a header", p.give(b, 1, 0, 1), 0);
            due.is("a spoiled block without a header", p.give(b, 2, 0, 1), 0);
        }
        due.is("headers", p.chain(2), 1);
        due.is("header 1", p.give(1, 0, 0, 0), 1);
        due.is("header 2 with 1", p.give(2, 0, 0, 0), 1);
        due.is("what was refused is not there", p.header(1, 3) + p.header(1, 4) + p.header(2, 3) + p.header(2, 4), 0);
        due.is("filter", p.give(1, 1, 0, 0), 1);
        due.is("block", p.give(1, 2, 0, 0), 1);
    }

    /** Gives a header with other NONCES till one is taken; answers its mask. */
    private static int takeSpoiled(Pair p, int b) {
        for (int mask = 1; mask < 256; mask++) {
            if (p.give(b, 0, 104, mask) == 1) {
                return mask;
            }
        }
        return 0;
    }

    /** "2 .. of a header: by its ID as given": a spoiled one is another than the block's own. */
    private static void knownByIdAsGiven(Due due) {
        Pair p = new Pair(due);
        p.mine(0, 10);
        int mask = takeSpoiled(p, 1);
        due.is("headers", p.chain(2), 2);
        due.is("as spoiled it is known", p.give(1, 0, 104, mask), 2);
        due.is("as it is it is not", p.give(1, 0, 0, 0), 1);
        due.is("as it is it is known now", p.give(1, 0, 0, 0), 2);
        due.is("as spoiled it is known still", p.give(1, 0, 104, mask), 2);
        due.is("spoiled otherwise it is refused, though the block's own is known", p.give(1, 0, 0, 1), 0);
        due.is("headers", p.chain(2), 3);
    }

    /** "(also a SPOILED one: no block is that then)". */
    private static void everySpoiledHeaderByte(Due due) {
        Pair p = new Pair(due);
        p.mine(0, 100);
        int taken = 0;
        for (int place = 0; place < HEADER; place++) {
            int before = p.chain(2);
            int got = p.give(1, 0, place, 1 << place % 8);
            taken += got == 1 ? 1 : 0;
            due.is("headers", p.chain(2), before + (got == 1 ? 1 : 0));
            if (place < 32 || place == 100) {
                due.is("another one before, or another D", got, 0);
            }
            if (got == 1) {
                due.is("no block is that", p.header(before, 5), NONE);
                due.is("HEIGHT", p.header(before, 1), 1);
                due.is("WORK", p.header(before, 2), 8);
                due.is("the one before", p.header(before, 0), 0);
            }
        }
        due.yes("some are taken", taken > 10);
        due.is("as it is", p.give(1, 0, 0, 0), 1);
        due.is("a block is that", p.header(taken + 1, 5), 1);
        p.lookAtMade(3);
    }

    /** "A filter: if the header with the ID of that block is known": a spoiled header is no such. */
    private static void filterOfSpoiledHeader(Due due) {
        Pair p = new Pair(due);
        p.mine(0, 10);
        takeSpoiled(p, 1);
        due.is("headers", p.chain(2), 2);
        due.is("no filter of it", p.give(1, 1, 0, 0), 0);
        due.is("no block of it", p.give(1, 2, 0, 0), 0);
        p.give(1, 0, 0, 0);
        due.is("the block's own filter", p.give(1, 1, 0, 0), 1);
        due.is("the block's own block", p.give(1, 2, 0, 0), 1);
        due.is("the spoiled one has no filter", p.header(1, 3), 0);
        due.is("the spoiled one has no block", p.header(1, 4), 0);
        due.is("its own header has the filter", p.header(2, 3), 1);
        due.is("its own header has the block", p.header(2, 4), 1);
    }

    /** A filter: "and the HASH is its FILTER"; "2 of a filter, block: whatever is SPOILED". */
    private static void spoiledFilter(Due due) {
        Pair p = Pair.rich(due, 1);
        p.signAndSend(p.payOut(500, 0));
        int b = p.mine(1, 30);
        p.give(b, 0, 0, 0);
        int length = p.block(b, 6);
        for (int place = 0; place < length; place++) {
            for (int mask : new int[] {1, 128, 255}) {
                due.is("spoiled", p.give(b, 1, place, mask), 0);
            }
        }
        due.is("refused", p.header(2, 3), 0);
        due.is("taken", p.give(b, 1, 0, 0), 1);
        for (int place = 0; place < length; place++) {
            due.is("it had that, whatever is spoiled", p.give(b, 1, place, 255), 2);
        }
    }

    /** A block: "the payments can be read to the end, and ROOT is theirs (.. a SPOILED one [WITNESS] does not count)". */
    private static void spoiledBlock(Due due) {
        Pair p = Pair.rich(due, 1);
        p.signAndSend(p.payOut(500, 1));
        p.mine(1, 10);
        p.give(2, 0, 0, 0);
        p.give(2, 1, 0, 0);
        int body = 28 + 2 + 33 + 48;
        for (int place = 0; place < body; place++) {
            due.is("spoiled at " + place, p.give(2, 2, place, 1 << place % 8), 0);
        }
        int[] counts = {0, 3, 28, 28 + 34};
        for (int place : counts) {
            for (int mask = 1; mask < 256; mask += 2) {
                due.is("another count at " + place, p.give(2, 2, place, mask), 0);
            }
        }
        due.is("WANTED", p.chain(4), 2);
        due.is("a spoiled WITNESS does not count", p.give(2, 2, body, 255), 1);
        due.is("it had that, whatever is spoiled", p.give(2, 2, 0, 1), 2);
        due.is("it had that, whatever is spoiled", p.give(2, 2, body + 96, 1), 2);
        due.is("nothing is missing", p.chain(4), 0);
        due.is("the rest", p.sum(0), 1000 - 500 - 180);
        p.look();
    }

    /** "counts as it is in that block .., whatever was SPOILED": each byte of a WITNESS may be. */
    private static void spoiledCountsAsInTheBlock(Due due) {
        for (int place : new int[] {0, 1, 32, 33, 64, 65, 95, 96}) {
            Pair p = Pair.rich(due, 1);
            p.signAndSend(p.payOwn(400, 0, 1));
            int b = p.mine(1, 10);
            p.give(b, 0, 0, 0);
            p.give(b, 1, 0, 0);
            due.is("byte " + place + " of the WITNESS", p.give(b, 2, 28 + 2 + 33 + 48 + place, 255), 1);
            due.is("the block is there", p.header(2, 4), 1);
            due.is("coins", p.coin(-1, 0), 2);
            due.is("value", p.coin(0, 0), 400);
            due.is("value", p.coin(1, 0), 600);
        }
    }

    /** "60 at most"; promise 15: "FULL: 60 headers, and it would be taken". */
    private static void sixtyHeaders(Due due) {
        Pair p = new Pair(due);
        p.mine(0, 10);
        p.mine(0, 20);
        p.mine(1, 20);
        p.give(1, 0, 0, 0);
        for (int mask = 1; mask < 256 && p.chain(2) < 59; mask++) {
            p.give(1, 0, 104, mask);
            p.give(1, 0, 103, mask);
        }
        due.is("headers", p.chain(2), 59);
        due.is("the 60th", takeSpoiled(p, 1) > 0 ? 1 : 0, 1);
        due.is("headers", p.chain(2), 60);
        due.is("it would be taken", p.give(2, 0, 0, 0), FULL);
        due.is("it would be taken", p.give(3, 0, 0, 0), FULL);
        due.is("it would not", p.give(2, 0, 0, 1), 0);
        due.is("it is known", p.give(0, 0, 0, 0), 2);
        due.is("it is known", p.give(1, 0, 0, 0), 2);
        due.is("no such block", p.give(4, 0, 0, 0), BAD);
        due.is("no such mask", p.give(2, 0, 0, 256), BAD);
        due.is("no such place", p.give(2, 0, HEADER, 1), BAD);
        due.is("headers", p.chain(2), 60);
        due.is("no HEADER 60", p.header(60, 0), BAD);
        due.is("HEADER 59", p.header(59, 0), 0);
        due.is("what was not taken has no filter", p.give(2, 1, 0, 0), 0);
        due.is("a filter is no header", p.give(1, 1, 0, 0), 1);
        due.is("a block is no header", p.give(1, 2, 0, 0), 1);
        due.is("the chain: the first of equal work", p.chain(0), 1);
        p.plant(1);
        p.give(0, 1, 0, 0);
        p.look();
        p.lookAtMade();
    }

    /** Promise 16: "the one before it (NONE of the first) .. BAD: none such". */
    private static void headerWrongly(Due due) {
        Pair p = new Pair(due);
        p.mine(0, 10);
        p.give(1, 0, 0, 0);
        for (int h : new int[] {-1, 2, 59, 60, Integer.MIN_VALUE, Integer.MAX_VALUE}) {
            due.is("header " + h, p.header(h, 0), BAD);
            due.is("header " + h, p.header(h, 13), BAD);
        }
        for (int what : new int[] {-1, 14, Integer.MIN_VALUE, Integer.MAX_VALUE}) {
            due.is("what " + what, p.header(0, what), BAD);
            due.is("what " + what, p.header(1, what), BAD);
        }
        due.is("the first", p.header(0, 0), NONE);
        due.is("the second", p.header(1, 0), 0);
        for (int h = 0; h < 2; h++) {
            for (int i = 0; i < 8; i++) {
                due.is("the ID", p.header(h, 6 + i), p.block(h, 8 + i));
            }
        }
    }

    /** "3 whether its filter, 4 its block was taken". */
    private static void headerFlags(Due due) {
        Pair p = new Pair(due);
        p.mine(0, 10);
        p.give(1, 0, 0, 0);
        p.give(1, 1, 0, 0);
        p.give(0, 2, 0, 0);
        due.is("no filter of 0", p.header(0, 3), 0);
        due.is("the block of 0", p.header(0, 4), 1);
        due.is("the filter of 1", p.header(1, 3), 1);
        due.is("no block of 1", p.header(1, 4), 0);
    }

    /** Promise 17: "BAD: another what; 3, 4, 5 without a seed". */
    private static void chainWrongly(Due due) {
        Pair p = new Pair(due);
        for (int round = 0; round < 2; round++) {
            for (int what : new int[] {-1, 6, Integer.MIN_VALUE, Integer.MAX_VALUE}) {
                due.is("what " + what, p.chain(what), BAD);
            }
            due.is("the last HEADER", p.chain(0), 0);
            due.is("its HEIGHT", p.chain(1), 0);
            due.is("headers", p.chain(2), 1);
            due.is("where it stopped", p.chain(3), round == 0 ? BAD : 0);
            due.is("what is missing", p.chain(4), round == 0 ? BAD : 1);
            due.is("the HEADER there", p.chain(5), round == 0 ? BAD : 0);
            p.plant(1);
        }
    }

    /** "goes to the known header of most WORK, of equal ones to that which was taken first". */
    private static void firstOfEqualWork(Due due) {
        Pair p = new Pair(due);
        p.mine(0, 10);
        p.mine(0, 11);
        p.mine(2, 12);
        p.give(2, 0, 0, 0);
        p.give(1, 0, 0, 0);
        due.is("the one taken first", p.chain(0), 1);
        due.is("that is block 2", p.header(1, 5), 2);
        p.mine(1, 10);
        p.give(4, 0, 0, 0);
        due.is("more work", p.chain(0), 3);
        due.is("HEIGHT", p.chain(1), 2);
        due.is("headers", p.chain(2), 4);
        p.give(3, 0, 0, 0);
        due.is("equal work", p.chain(0), 3);
        p.mine(3, 10);
        p.give(5, 0, 0, 0);
        due.is("more work", p.chain(0), 5);
        due.is("HEIGHT", p.chain(1), 3);
        p.lookAtMade();
    }

    /** A chain of less height may have more work. */
    private static void workNotHeight(Due due) {
        Pair p = new Pair(due);
        int slow = 0;
        for (int i = 0; i < 13; i++) {
            slow = p.mine(slow, 1000);
            p.give(slow, 0, 0, 0);
        }
        due.is("HEIGHT", p.chain(1), 13);
        int fast = 0;
        for (int i = 0; i < 8; i++) {
            fast = p.mine(fast, 0);
            p.give(fast, 0, 0, 0);
            due.is("WORK decides", p.chain(1), p.block(fast, 7) > p.block(slow, 7) ? i + 1 : 13);
        }
        due.is("less HEIGHT", p.chain(1), 8);
        p.look();
        p.lookAtMade(3);
    }

    /** A spoiled header that is taken may be the chain's end: the scan has no filter there, for good. */
    private static void spoiledChain(Due due) {
        Pair p = new Pair(due);
        p.plant(1);
        p.giveAll(0);
        p.mine(0, 10);
        takeSpoiled(p, 1);
        due.is("the chain's end", p.chain(0), 1);
        p.giveAll(1);
        due.is("the first of equal work", p.chain(0), 1);
        due.is("it stopped there", p.chain(3), 1);
        due.is("the filter is missing", p.chain(4), 1);
        due.is("of the spoiled HEADER", p.chain(5), 1);
        p.giveAll(p.mine(1, 10));
        due.is("more work", p.chain(0), 3);
        due.is("to the end", p.chain(3), NONE);
        p.look();
    }
}
