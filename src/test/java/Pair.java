import java.util.Arrays;

/** Calls the class and the reference alike, and tells where they differ. */
final class Pair {
    final PurseHouse x = new PurseHouse();
    final Reference y = new Reference();
    final Due due;
    private final StringBuilder log = new StringBuilder();
    private boolean told;

    Pair(Due due) {
        this.due = due;
    }

    private int same(String call, int got, int want, int... args) {
        String text = call + Arrays.toString(args);
        log.append(text).append('=').append(got).append(' ');
        due.is(text, got, want);
        if (got != want && !told) {
            told = true;
            System.out.println("behind " + log);
        }
        return got;
    }

    int feed(int a, int b, int c, int d, int e) {
        return same("feed", x.feed(a, b, c, d, e), y.feed(a, b, c, d, e), a, b, c, d, e);
    }

    int cut(int n) {
        return same("cut", x.cut(n), y.cut(n), n);
    }

    int hash(int what, int i) {
        return same("hash", x.hash(what, i), y.hash(what, i), what, i);
    }

    int seed() {
        return same("seed", x.seed(), y.seed());
    }

    int gap(int n) {
        return same("gap", x.gap(n), y.gap(n), n);
    }

    int key(int branch, int k, int i) {
        return same("key", x.key(branch, k, i), y.key(branch, k, i), branch, k, i);
    }

    int address(int branch, int k) {
        return same("address", x.address(branch, k), y.address(branch, k), branch, k);
    }

    int mine(int b, int seconds) {
        return same("mine", x.mine(b, seconds), y.mine(b, seconds), b, seconds);
    }

    int block(int b, int what) {
        return same("block", x.block(b, what), y.block(b, what), b, what);
    }

    int payment(int b, int i, int what) {
        return same("payment", x.payment(b, i, what), y.payment(b, i, what), b, i, what);
    }

    int filterByte(int b, int i) {
        return same("filterByte", x.filterByte(b, i), y.filterByte(b, i), b, i);
    }

    int waiting() {
        return same("waiting", x.waiting(), y.waiting());
    }

    int forget() {
        return same("forget", x.forget(), y.forget());
    }

    int give(int b, int what, int place, int mask) {
        return same("give", x.give(b, what, place, mask), y.give(b, what, place, mask), b, what, place, mask);
    }

    int header(int h, int what) {
        return same("header", x.header(h, what), y.header(h, what), h, what);
    }

    int chain(int what) {
        return same("chain", x.chain(what), y.chain(what), what);
    }

    int last(int branch) {
        return same("last", x.last(branch), y.last(branch), branch);
    }

    int coin(int i, int what) {
        return same("coin", x.coin(i, what), y.coin(i, what), i, what);
    }

    int sum(int what) {
        return same("sum", x.sum(what), y.sum(what), what);
    }

    int pay(int amount, int rate) {
        return same("pay", x.pay(amount, rate), y.pay(amount, rate), amount, rate);
    }

    int draft(int d, int what) {
        return same("draft", x.draft(d, what), y.draft(d, what), d, what);
    }

    int sign(int d) {
        return same("sign", x.sign(d), y.sign(d), d);
    }

    int draftByte(int d, int i) {
        return same("draftByte", x.draftByte(d, i), y.draftByte(d, i), d, i);
    }

    int send(int d, int place, int mask) {
        return same("send", x.send(d, place, mask), y.send(d, place, mask), d, place, mask);
    }

    int drop(int d) {
        return same("drop", x.drop(d), y.drop(d), d);
    }

    int check(int d) {
        return same("check", x.check(d), y.check(d), d);
    }

    // ---- what tests do again and again

    /** A seed of twenty bytes. */
    void plant(int n) {
        cut(y.tape.length);
        feed(n, 2, 3, 4, 5);
        seed();
    }

    /** Gives header, filter and block of a block. */
    void giveAll(int b) {
        give(b, 0, 0, 0);
        give(b, 1, 0, 0);
        give(b, 2, 0, 0);
    }

    /** Mines for a key of the purse and gives what was mined. */
    int mineFor(int before, int seconds, int branch, int k) {
        cut(y.tape.length);
        address(branch, k);
        int b = mine(before, seconds);
        giveAll(b);
        return b;
    }

    /** Pays to a stranger. */
    int payOut(int amount, int rate) {
        cut(y.tape.length);
        feed(amount, rate, 99, 98, 97);
        return pay(amount, rate);
    }

    /** Looks at the state of the purse and, in places, of all that there is. */
    void look() {
        for (int what = 0; what < 6; what++) {
            chain(what);
        }
        last(0);
        last(1);
        sum(0);
        sum(1);
        int n = coin(-1, 0);
        for (int i = 0; i < n; i++) {
            for (int what = 0; what < 7; what++) {
                coin(i, what);
            }
        }
        waiting();
    }

    void lookAtMade() {
        for (int b = 0; b < y.made.size(); b++) {
            for (int what = 0; what < 32; what++) {
                block(b, what);
            }
            for (int i = 0; i < y.made.get(b).pays.size(); i++) {
                for (int what = 0; what < 13; what++) {
                    payment(b, i, what);
                }
            }
            for (int i = 0; i <= y.made.get(b).filter.length; i++) {
                filterByte(b, i);
            }
        }
        for (int h = 0; h < y.known.size(); h++) {
            for (int what = 0; what < 14; what++) {
                header(h, what);
            }
        }
    }

    /** What holds among the class's own answers on headers, whatever the reference tells. */
    void lookAtLaws() {
        for (int h = 0; h < x.chain(2); h++) {
            int before = x.header(h, 0);
            due.yes("the one before header " + h, h == 0 ? before == PurseHouse.NONE : before >= 0 && before < h);
            if (h > 0) {
                due.is("height of header " + h, x.header(h, 1), x.header(before, 1) + 1);
                due.is("own work of header " + h, Integer.bitCount(x.header(h, 2) - x.header(before, 2)), 1);
            }
            due.is("block of header " + h, x.header(h, 5), firstBlockOf(h));
        }
    }

    private int firstBlockOf(int h) {
        for (int b = 0; x.block(b, 0) != PurseHouse.BAD; b++) {
            int same = 0;
            for (int i = 0; i < 8; i++) {
                same += x.block(b, 8 + i) == x.header(h, 6 + i) ? 1 : 0;
            }
            if (same == 8) {
                return b;
            }
        }
        return PurseHouse.NONE;
    }

    void lookAtDrafts() {
        for (int d = 0; d < y.drafts.size(); d++) {
            for (int what = -1; what < 7; what++) {
                draft(d, what);
            }
            for (int i = -1; i <= y.drafts.get(d).bytes().length; i++) {
                draftByte(d, i);
            }
            check(d);
        }
    }
}
