import java.util.Random;

/** Long runs of likely and unlikely calls, all promises at once, against the reference. */
public final class WanderTest {
    private static final int SPARE = 90;
    private static final int[][] PACES = {{0, 9, 10, 13, 14, 40, 41, 50, 53, 54, 60, 1000}, {0, 1, 9}, {20, 40}};

    private final Random random;
    private final Pair p;
    private final int[] paces;

    private WanderTest(long seed, Due due) {
        random = new Random(seed);
        p = new Pair(due);
        paces = PACES[(int) (seed % PACES.length)];
    }

    public static void main(String[] args) {
        int runs = args.length > 0 ? Integer.parseInt(args[0]) : 21;
        int first = args.length > 1 ? Integer.parseInt(args[1]) : 1;
        Due due = new Due("wandering");
        wander(runs, first, due);
        due.end();
    }

    static void wander(int runs, int first, Due due) {
        for (int run = first; run < first + runs; run++) {
            WanderTest one = new WanderTest(run, due);
            one.wander(140 + run % 5 * 60);
        }
    }

    private int pick(int n) {
        return random.nextInt(n);
    }

    private void wander(int steps) {
        p.give(0, 1, 0, 0);
        p.give(0, 2, 0, 0);
        if (pick(8) > 0) {
            p.plant(pick(3));
        }
        for (int step = 0; step < steps && p.room() > SPARE; step++) {
            step();
            if (pick(12) == 0) {
                p.look(3);
            }
        }
        p.look();
        p.lookAtMade(5);
        p.lookAtLaws();
        p.lookAtDrafts(17);
    }

    private void step() {
        int blocks = p.y.made.size();
        if (Weak.isOn() && pick(6) == 0) {
            giveTwins(blocks);
            return;
        }
        switch (pick(23)) {
            case 0 -> tape();
            case 1, 2, 3, 4 -> mineSome(blocks);
            case 5, 6 -> giveSome(blocks);
            case 7 -> giveLast(blocks);
            case 8 -> p.gap(pick(10));
            case 9, 10, 11 -> paySome();
            case 12, 13 -> p.sign(someDraft());
            case 14, 15, 16 -> sendSome();
            case 17 -> {
                if (pick(4) == 0) {
                    p.drop(someDraft());
                } else {
                    p.check(someDraft());
                }
            }
            case 18 -> rare();
            case 19 -> payMany(blocks);
            case 20 -> payMany(blocks);
            case 21 -> spoilHeaders(blocks);
            default -> p.look(3);
        }
    }

    private void tape() {
        switch (pick(5)) {
            case 0 -> p.feed(pick(5), pick(5), random.nextInt(), pick(5), pick(5));
            case 1 -> p.cut(pick(60) - 5);
            case 2 -> p.hash(pick(3), pick(9));
            case 3 -> p.address(pick(2), pick(34) - 1);
            default -> p.key(pick(3) - pick(2), pick(36) - 2, pick(36) - 2);
        }
    }

    private void rare() {
        switch (pick(8)) {
            case 0 -> {
                if (pick(4) == 0) {
                    p.plant(pick(3));
                }
            }
            case 1 -> p.seed();
            case 2 -> p.forget();
            default -> wild();
        }
    }

    private int odd() {
        int[] ends = {-1, -2, 0, 1, 2, 255, 256, Integer.MAX_VALUE, Integer.MIN_VALUE, 200, 64, 1001, 40, 60, 16};
        return pick(3) == 0 ? random.nextInt() : ends[pick(ends.length)];
    }

    private void wild() {
        p.cut(odd());
        p.hash(odd(), odd());
        p.gap(pick(3) == 0 ? odd() : 0);
        p.key(odd(), odd(), odd());
        p.address(odd(), odd());
        p.mine(odd(), 1001);
        p.block(odd(), odd());
        p.payment(odd(), odd(), odd());
        p.filterByte(odd(), odd());
        p.give(odd(), odd(), odd(), odd());
        p.header(odd(), odd());
        p.chain(odd());
        p.last(odd());
        p.coin(odd(), odd());
        p.sum(odd());
        p.pay(odd(), odd());
        p.draft(odd(), odd());
        p.sign(odd());
        p.draftByte(odd(), odd());
        p.send(odd(), odd(), odd());
        p.check(odd());
    }

    private int someKey() {
        return pick(6) == 0 ? pick(32) : pick(6);
    }

    private void mineSome(int blocks) {
        if (blocks > 30 && pick(3) > 0) {
            return;
        }
        if (pick(5) > 0) {
            p.cut(p.y.tape.length);
            if (pick(4) > 0) {
                p.address(pick(4) == 0 ? 1 : 0, someKey());
            } else {
                p.feed(pick(3), 1, 1, 1, 1);
            }
        }
        int on = pick(4) > 0 ? blocks - 1 : Math.max(0, blocks - 1 - pick(6));
        int b = p.mine(on, paces[pick(paces.length)]);
        if (b > 0 && pick(5) > 0) {
            p.giveAll(b);
        } else if (b > 0) {
            p.give(b, 0, 0, 0);
            p.give(b, 1 + pick(2), 0, 0);
        }
    }

    /** A few drafts at once, then a block, so that several payments meet in it. */
    private void payMany(int blocks) {
        for (int i = 0; i < 4; i++) {
            p.cut(p.y.tape.length);
            if (pick(2) == 0) {
                p.address(pick(2), someKey());
            } else {
                p.feed(pick(3), 1, 1, 1, 1);
            }
            int d = p.pay(1 + pick(1200), pick(2));
            if (d >= 0) {
                p.sign(d);
                p.send(d, 0, 0);
            }
        }
        int b = p.mine(blocks - 1, paces[pick(paces.length)]);
        if (b > 0) {
            p.giveAll(b);
        }
    }

    /** A header with other NONCES: some are proved. */
    private void spoilHeaders(int blocks) {
        int b = blocks - 1 - pick(Math.min(3, blocks));
        for (int i = 0; i < 6; i++) {
            p.give(b, 0, 101 + pick(4), 1 + pick(255));
        }
    }

    /** Headers, filters and payments of all blocks, as they are and as others: some have the ID of one of those. */
    private void giveTwins(int blocks) {
        for (int i = 0; i < 5; i++) {
            int b = pick(blocks);
            p.give(b, 0, 32 + pick(73), 1 + pick(255));
            p.give(b, 0, 96, 0);
            p.give(b, 1, pick(4), pick(256));
            p.give(b, 2, pick(28), pick(2) == 0 ? 255 : pick(255));
        }
        if (pick(3) == 0) {
            p.lookAtMade(5);
        }
    }

    private void giveSome(int blocks) {
        int b = pick(blocks + 1);
        int what = pick(3);
        int mask = pick(2) == 0 ? 0 : 1 << pick(9);
        int place = what == 0 ? pick(3) == 0 ? 96 + pick(10) : pick(107) : pick(what == 1 ? 12 : 600);
        p.give(b, what, place, mask);
    }

    private void giveLast(int blocks) {
        for (int b = Math.max(0, blocks - 8); b < blocks; b++) {
            p.giveAll(b);
        }
    }

    private void paySome() {
        if (pick(4) > 0) {
            p.cut(p.y.tape.length);
            if (pick(3) == 0) {
                p.address(pick(2), someKey());
            } else {
                p.feed(pick(3), 1, 1, 1, 1);
            }
        }
        int rate = pick(3) == 0 ? pick(11) - 1 : pick(3);
        int amount = pick(8) == 0 ? odd() : 1 + pick(pick(3) == 0 ? 4000 : 1500);
        int d = p.pay(amount, rate);
        if (d >= 0 && pick(2) == 0) {
            p.sign(d);
            p.send(d, 0, 0);
        }
    }

    private int someDraft() {
        int n = p.y.drafts.size();
        return pick(10) == 0 ? pick(20) - 2 : Math.max(0, n - 1 - pick(4));
    }

    private void sendSome() {
        int d = someDraft();
        int mask = pick(3) > 0 ? 0 : pick(3) == 0 ? pick(258) - 1 : 1 << pick(8);
        p.send(d, pick(3) == 0 ? pick(620) - 2 : pick(3) * 33, mask);
    }
}
