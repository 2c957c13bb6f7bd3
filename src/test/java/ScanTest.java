/** Promises 18 to 20 (last, coin, sum), what promise 17 tells of THE SCAN, and what 5 THE PURSE says of it. */
public final class ScanTest {
    private static final int BAD = PurseHouse.BAD;
    private static final int NONE = PurseHouse.NONE;

    public static void main(String[] args) {
        Due due = new Due("scan");
        scanStops(due);
        stopsWithinTheChain(due);
        stopsAtAWantedBlock(due);
        meetsByNumber(due);
        spentWithoutOutput(due);
        watchedByGap(due);
        watchedBehindLast(due);
        lastIsTheGreatest(due);
        branchesApart(due);
        notWatchedYet(due);
        doneAnew(due);
        doneAnewFromTheCoinsBefore(due);
        thirtyOneAtMost(due);
        lastWrongly(due);
        coinsAsTheyCame(due);
        lockedByDrafts(due);
        undone(due);
        coinWrongly(due);
        sumWrongly(due);
        due.end();
    }

    private static void stopIs(Pair p, int height, int missing, int header) {
        p.due.is("HEIGHT at which it stopped", p.chain(3), height);
        p.due.is("what is missing", p.chain(4), missing);
        p.due.is("the HEADER there", p.chain(5), header);
    }

    /** "if its filter was not taken: it stops there .. if the block was not taken: it stops there (.. WANTED)". */
    private static void scanStops(Due due) {
        Pair p = new Pair(due);
        p.plant(1);
        stopIs(p, 0, 1, 0);
        p.give(0, 1, 0, 0);
        stopIs(p, NONE, 0, NONE);
        p.address(0, 0);
        p.mine(0, 10);
        p.mine(1, 10);
        stopIs(p, NONE, 0, NONE);
        p.give(1, 0, 0, 0);
        stopIs(p, 1, 1, 1);
        p.give(2, 0, 0, 0);
        p.give(2, 1, 0, 0);
        stopIs(p, 1, 1, 1);
        p.give(1, 1, 0, 0);
        stopIs(p, 1, 2, 1);
        due.is("no coin", p.coin(-1, 0), 0);
        due.is("none used", p.last(0), -1);
        p.give(1, 2, 0, 0);
        stopIs(p, NONE, 0, NONE);
        due.is("a coin", p.coin(-1, 0), 1);
        due.is("used", p.last(0), 0);
        due.is("sum", p.sum(0), 1000);
    }

    /** What was found before the stop counts, what comes behind it does not; a block without its filter does not do. */
    private static void stopsWithinTheChain(Due due) {
        Pair p = new Pair(due);
        p.plant(1);
        p.giveAll(0);
        for (int k = 0; k < 4; k++) {
            p.clear();
            p.address(0, k % 3);
            p.mine(k, 30);
            p.give(k + 1, 0, 0, 0);
            p.give(k + 1, 2, 0, 0);
        }
        due.is("no filter, no coin", p.coin(-1, 0), 0);
        stopIs(p, 1, 1, 1);
        p.give(1, 1, 0, 0);
        p.give(3, 1, 0, 0);
        p.give(4, 1, 0, 0);
        stopIs(p, 2, 1, 2);
        due.is("one coin", p.sum(0), 1000);
        due.is("LAST", p.last(0), 0);
        p.give(2, 1, 0, 0);
        stopIs(p, NONE, 0, NONE);
        due.is("all coins", p.sum(0), 4000);
        due.is("LAST", p.last(0), 2);
    }

    /** The same where a block is WANTED: coins behind it do not count, and the purse pays with those before it. */
    private static void stopsAtAWantedBlock(Due due) {
        Pair p = new Pair(due);
        p.plant(1);
        p.giveAll(0);
        for (int b = 1; b <= 4; b++) {
            p.clear();
            p.address(0, b % 3);
            p.mine(b - 1, 30);
            p.give(b, 0, 0, 0);
            p.give(b, 1, 0, 0);
            if (b != 2) {
                p.give(b, 2, 0, 0);
            }
        }
        stopIs(p, 2, 2, 2);
        due.is("one coin", p.coin(-1, 0), 1);
        due.is("its HEIGHT", p.coin(0, 3), 1);
        due.is("LAST", p.last(0), 1);
        due.is("sum", p.sum(0), 1000);
        due.is("more than the coins before have", p.payOut(1001, 0), PurseHouse.NONE);
        due.is("a draft", p.payOut(900, 0), 0);
        p.give(2, 2, 0, 0);
        stopIs(p, NONE, 0, NONE);
        due.is("all coins", p.sum(0), 4000);
        due.is("one is LOCKED", p.sum(1), 3000);
        due.is("LAST", p.last(0), 2);
    }

    /** A stranger whose number in a block on block b is this one, of one. */
    private static int strangerOf(Pair p, int b, long number) {
        byte[] before = p.y.made.get(b).header.id;
        int n = 0;
        while (Reference.filterNumber(before, Reference.join(Reference.number(n, 4), new byte[16]), 1) != number) {
            n++;
        }
        return n;
    }

    /** "A filter MEETS an ADDRESS whose number is one of these": a stranger's too; "MEETS no ADDRESS ..: it goes on". */
    private static void meetsByNumber(Due due) {
        Pair p = new Pair(due);
        p.plant(1);
        p.giveAll(0);
        p.gap(1);
        byte[] before = p.y.made.get(0).header.id;
        long own = Reference.filterNumber(before, p.y.own.get(0, 0).address(), 1);
        long change = Reference.filterNumber(before, p.y.own.get(1, 0).address(), 1);
        for (long number = 0; number < 64; number++) {
            boolean near = Math.abs(number - own) < 2 || Math.abs(number - change) < 2;
            if (!near && number % 16 != 0) {
                continue;
            }
            Pair q = new Pair(due);
            q.plant(1);
            q.giveAll(0);
            q.gap(1);
            q.feed(strangerOf(q, 0, number), 0, 0, 0, 0);
            int b = q.mine(0, 30);
            q.give(b, 0, 0, 0);
            q.give(b, 1, 0, 0);
            boolean meets = number == own || number == change;
            stopIs(q, meets ? 1 : NONE, meets ? 2 : 0, meets ? 1 : NONE);
            q.give(b, 2, 0, 0);
            stopIs(q, NONE, 0, NONE);
            due.is("no coin", q.coin(-1, 0), 0);
        }
    }

    /** The filter has the ADDRESSES of outputs that inputs name: a block that only takes a coin is WANTED, too. */
    private static void spentWithoutOutput(Due due) {
        Pair p = Pair.rich(due, 1);
        p.signAndSend(p.payOut(1000, 0));
        int b = p.mine(1, 30);
        p.give(b, 0, 0, 0);
        p.give(b, 1, 0, 0);
        stopIs(p, 2, 2, 2);
        due.is("the coin is there still", p.coin(-1, 0), 1);
        p.give(b, 2, 0, 0);
        due.is("the coin went", p.coin(-1, 0), 0);
        due.is("LAST stays", p.last(0), 0);
    }

    /** "WATCHING KEYS 0 .. LAST + GAP .., LAST being .. (-1 without)": KEY GAP - 1 is, KEY GAP is not. */
    private static void watchedByGap(Due due) {
        for (int gap = 1; gap <= 8; gap++) {
            for (int branch = 0; branch < 2; branch++) {
                Pair p = new Pair(due);
                p.plant(gap);
                p.gap(gap);
                p.giveAll(0);
                p.mineFor(0, 30, branch, gap);
                due.is("KEY " + gap + " with GAP " + gap, p.coin(-1, 0), 0);
                due.is("LAST", p.last(branch), -1);
                p.mineFor(0, 30, branch, gap - 1);
                p.mineFor(2, 30, 1 - branch, gap);
                due.is("KEY " + (gap - 1) + " with GAP " + gap, p.coin(-1, 0), 1);
                due.is("LAST", p.last(branch), gap - 1);
                due.is("LAST of the other", p.last(1 - branch), -1);
            }
        }
    }

    /** The same behind a KEY that was used. */
    private static void watchedBehindLast(Due due) {
        for (int gap = 1; gap <= 8; gap += 7) {
            Pair p = new Pair(due);
            p.plant(1);
            p.gap(gap);
            p.giveAll(0);
            p.mineFor(0, 30, 0, 0);
            p.mineFor(1, 30, 0, gap + 1);
            due.is("KEY " + (gap + 1) + " behind LAST 0", p.coin(-1, 0), 1);
            due.is("LAST", p.last(0), 0);
            p.mineFor(1, 31, 0, gap);
            p.mineOn(3);
            due.is("KEY " + gap + " behind LAST 0", p.coin(-1, 0), 2);
            due.is("LAST", p.last(0), gap);
        }
    }

    /** LAST is "the last KEY of a BRANCH that was used", not the one that was used last. */
    private static void lastIsTheGreatest(Due due) {
        Pair p = new Pair(due);
        p.plant(1);
        p.giveAll(0);
        p.mineFor(0, 30, 0, 2);
        p.mineFor(1, 30, 0, 0);
        due.is("LAST", p.last(0), 2);
        p.mineFor(2, 30, 0, 5);
        due.is("LAST", p.last(0), 5);
        p.mineFor(3, 30, 0, 5);
        due.is("LAST", p.last(0), 5);
        due.is("coins", p.coin(-1, 0), 4);
    }

    /** One BRANCH that is used does not make the purse look further along the other. */
    private static void branchesApart(Due due) {
        Pair p = new Pair(due);
        p.plant(1);
        p.giveAll(0);
        p.mineFor(0, 30, 1, 2);
        due.is("LAST of 1", p.last(1), 2);
        due.is("LAST of 0", p.last(0), -1);
        p.mineFor(1, 30, 0, 3);
        due.is("KEY 3 of BRANCH 0 is not WATCHED", p.coin(-1, 0), 1);
        p.mineFor(2, 30, 1, 5);
        due.is("KEY 5 of BRANCH 1 is", p.coin(-1, 0), 2);
        due.is("BRANCH", p.coin(1, 1), 1);
        due.is("KEY", p.coin(1, 2), 5);
    }

    /** A KEY that comes to be WATCHED later on does not bring back the blocks before. */
    private static void notWatchedYet(Due due) {
        Pair p = new Pair(due);
        p.plant(1);
        p.giveAll(0);
        p.mineFor(0, 30, 0, 4);
        p.mineFor(1, 30, 0, 2);
        due.is("LAST", p.last(0), 2);
        due.is("coins", p.coin(-1, 0), 1);
        p.mineFor(2, 30, 0, 4);
        due.is("from now on it is WATCHED", p.coin(-1, 0), 2);
        due.is("HEIGHT", p.coin(1, 3), 3);
        p.gap(5);
        due.is("with a greater GAP it was from the beginning", p.coin(-1, 0), 3);
        due.is("HEIGHT", p.coin(0, 3), 1);
    }

    /** "If more is WATCHED then than before, the block is done anew, .. (till nothing is new)": three times here. */
    private static void doneAnew(Due due) {
        Pair p = new Pair(due);
        p.plant(1);
        p.gap(1);
        p.giveAll(0);
        for (int b = 1; b < 4; b++) {
            p.mineFor(b - 1, 30, 0, Math.min(b - 1, 1));
        }
        due.is("LAST", p.last(0), 1);
        p.signAndSend(p.payOwn(1000, 0, 5));
        p.signAndSend(p.payOwn(1000, 0, 4));
        p.signAndSend(p.payOwn(1000, 0, 3));
        p.clear();
        p.address(0, 2);
        int b = p.mine(3, 30);
        due.is("payments", p.block(b, 5), 4);
        p.giveAll(b);
        due.is("LAST", p.last(0), 5);
        due.is("coins", p.coin(-1, 0), 4);
        int[] keys = {2, 5, 4, 3};
        for (int i = 0; i < 4; i++) {
            due.is("as they came", p.coin(i, 2), keys[i]);
            due.is("HEIGHT", p.coin(i, 3), 4);
        }
        p.look();
    }

    /** "from the coins that there were before it": none comes twice, and none stays that went. */
    private static void doneAnewFromTheCoinsBefore(Due due) {
        Pair p = new Pair(due);
        p.plant(1);
        p.gap(1);
        p.giveAll(0);
        p.mineFor(0, 30, 0, 0);
        p.mineFor(1, 30, 0, 0);
        int d = p.signAndSend(p.payOwn(700, 0, 2));
        due.is("a rest", p.draft(d, 3), 300);
        p.clear();
        p.address(0, 1);
        p.giveAll(p.mine(2, 30));
        due.is("coins", p.coin(-1, 0), 4);
        int[] values = {1000, 1000, 700, 300};
        int[] keys = {0, 1, 2, 0};
        for (int i = 0; i < 4; i++) {
            due.is("value", p.coin(i, 0), values[i]);
            due.is("KEY", p.coin(i, 2), keys[i]);
            due.is("BRANCH", p.coin(i, 1), i < 3 ? 0 : 1);
            due.is("which output", p.coin(i, 4), i < 3 ? 0 : 1);
        }
        due.is("sum", p.sum(0), 3000);
    }

    /** "(31 at most)": the last KEY is WATCHED, and behind it there is none. */
    private static void thirtyOneAtMost(Due due) {
        Pair p = new Pair(due);
        p.plant(1);
        p.gap(8);
        p.giveAll(0);
        int before = 0;
        for (int k : new int[] {7, 15, 22, 23, 30, 31, 31}) {
            before = p.mineFor(before, 30, 0, k);
            before = p.mineFor(before, 30, 1, k);
            due.is("LAST", p.last(0), k);
            due.is("LAST", p.last(1), k);
        }
        due.is("coins", p.coin(-1, 0), 14);
        p.look();
        int d = p.payOut(100, 1);
        due.is("the rest is for KEY 31", p.draft(d, 1), 2);
        p.signAndSend(d);
        p.giveAll(p.mine(before, 30));
        due.is("coins", p.coin(-1, 0), 14);
        due.is("BRANCH", p.coin(13, 1), 1);
        due.is("KEY", p.coin(13, 2), 31);
        due.is("output", p.coin(13, 4), 1);
        due.is("LAST", p.last(1), 31);
    }

    /** Promise 18: "BAD: no seed, no such BRANCH". */
    private static void lastWrongly(Due due) {
        Pair p = new Pair(due);
        due.is("no seed", p.last(0), BAD);
        due.is("no seed", p.last(1), BAD);
        p.plant(1);
        p.giveAll(0);
        p.mineFor(0, 30, 0, 0);
        due.is("BRANCH 0", p.last(0), 0);
        due.is("BRANCH 1: -1 without", p.last(1), -1);
        for (int branch : new int[] {-1, 2, Integer.MIN_VALUE, Integer.MAX_VALUE}) {
            due.is("BRANCH " + branch, p.last(branch), BAD);
        }
        p.mineFor(1, 30, 1, 1);
        due.is("BRANCH 1", p.last(1), 1);
    }

    /** Promise 19: "of coin i, as they came": those that go leave the others in their order. */
    private static void coinsAsTheyCame(Due due) {
        Pair p = new Pair(due);
        p.plant(1);
        p.giveAll(0);
        p.mineFor(0, 30, 0, 0);
        p.mineFor(1, 30, 0, 1);
        p.mineFor(2, 30, 1, 0);
        due.is("coins", p.coin(-1, 0), 3);
        for (int i = 0; i < 3; i++) {
            due.is("value", p.coin(i, 0), 1000);
            due.is("BRANCH", p.coin(i, 1), i / 2);
            due.is("KEY", p.coin(i, 2), i % 2);
            due.is("HEIGHT", p.coin(i, 3), i + 1);
            due.is("which output", p.coin(i, 4), 0);
            due.is("LOCKED", p.coin(i, 5), 0);
            due.is("first word of the ID", p.coin(i, 6), p.payment(i + 1, 0, 2));
        }
        p.signAndSend(p.payOut(400, 2));
        p.giveAll(p.mine(3, 30));
        due.is("coins", p.coin(-1, 0), 3);
        due.is("the second is the first now", p.coin(0, 2), 1);
        due.is("the third is the second now", p.coin(1, 1), 1);
        due.is("the rest came last", p.coin(2, 0), 1000 - 400 - 2 * 180);
        due.is("for change", p.coin(2, 1), 1);
        due.is("behind LAST", p.coin(2, 2), 1);
        due.is("HEIGHT", p.coin(2, 3), 4);
        due.is("the second output", p.coin(2, 4), 1);
        due.is("first word of the ID", p.coin(2, 6), p.payment(4, 1, 2));
        due.is("LAST", p.last(1), 1);
        due.is("all", p.sum(0), 2240);
        p.look();
    }

    /** "A coin is LOCKED while a DRAFT that was not dropped names it." */
    private static void lockedByDrafts(Due due) {
        Pair p = Pair.rich(due, 3);
        int d = p.payOut(1900, 0);
        for (int round = 0; round < 3; round++) {
            for (int i = 0; i < 3; i++) {
                due.is("LOCKED", p.coin(i, 5), i < 2 ? 1 : 0);
            }
            due.is("all", p.sum(0), 3000);
            due.is("not LOCKED", p.sum(1), 1000);
            if (round == 0) {
                p.sign(d);
            } else {
                p.send(d, 0, 0);
            }
        }
        p.drop(d);
        for (int i = 0; i < 3; i++) {
            due.is("LOCKED no more", p.coin(i, 5), 0);
        }
        due.is("not LOCKED", p.sum(1), 3000);
    }

    /** Another chain takes back what was: coins that went are there again, and LOCKED while a draft names them. */
    private static void undone(Due due) {
        Pair p = new Pair(due);
        p.plant(1);
        p.giveAll(0);
        p.mineFor(0, 30, 0, 0);
        int d = p.signAndSend(p.payOut(400, 0));
        p.giveAll(p.mine(1, 30));
        due.is("the rest", p.sum(0), 600);
        p.mineFor(1, 30, 0, 1);
        due.is("equal work", p.sum(0), 600);
        p.mineFor(3, 30, 0, 2);
        due.is("the other chain", p.sum(0), 3000);
        due.is("LOCKED by what was sent", p.sum(1), 2000);
        due.is("no change", p.last(1), -1);
        p.drop(d);
        due.is("LOCKED no more", p.sum(1), 3000);
        p.giveAll(p.mine(2, 30));
        p.giveAll(p.mine(5, 30));
        due.is("back again", p.sum(0), 600);
        due.is("change", p.last(1), 0);
        due.is("LAST", p.last(0), 0);
        p.look();
    }

    /** Promise 19: "How many coins there are (i = - 1, what 0) .. BAD: none such, no seed". */
    private static void coinWrongly(Due due) {
        Pair p = new Pair(due);
        for (int what = 0; what < 7; what++) {
            due.is("no seed", p.coin(0, what), BAD);
        }
        due.is("no seed", p.coin(-1, 0), BAD);
        p.plant(1);
        due.is("no coin", p.coin(-1, 0), 0);
        due.is("coin 0", p.coin(0, 0), BAD);
        p.giveAll(0);
        p.mineFor(0, 30, 0, 0);
        due.is("one coin", p.coin(-1, 0), 1);
        for (int what = 0; what < 7; what++) {
            due.is("coin 1", p.coin(1, what), BAD);
            due.is("coin -2", p.coin(-2, what), BAD);
        }
        due.is("coin", p.coin(Integer.MIN_VALUE, 0), BAD);
        due.is("coin", p.coin(Integer.MAX_VALUE, 0), BAD);
        for (int what : new int[] {-1, 7, Integer.MIN_VALUE, Integer.MAX_VALUE}) {
            due.is("what " + what, p.coin(0, what), BAD);
            due.is("what " + what, p.coin(-1, what), BAD);
        }
        for (int what = 1; what < 7; what++) {
            due.is("how many is what 0 alone", p.coin(-1, what), BAD);
        }
    }

    /** Promise 20: "BAD: no seed, another what". */
    private static void sumWrongly(Due due) {
        Pair p = new Pair(due);
        due.is("no seed", p.sum(0), BAD);
        due.is("no seed", p.sum(1), BAD);
        p.plant(1);
        due.is("no coins", p.sum(0), 0);
        due.is("no coins", p.sum(1), 0);
        for (int what : new int[] {-1, 2, Integer.MIN_VALUE, Integer.MAX_VALUE}) {
            due.is("what " + what, p.sum(what), BAD);
        }
    }
}
