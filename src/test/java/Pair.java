import java.util.ArrayList;
import java.util.Arrays;
import java.util.List;
import java.util.function.IntUnaryOperator;
import java.util.function.ToIntFunction;

/**
 * Calls the class and the reference alike, and tells where they differ. No object of the class lives longer than the
 * document lets it: behind its last call a new one comes, for which all that had an effect is done again.
 */
final class Pair {
    static final int LIFE = 512;

    final Reference y = new Reference();
    final Due due;
    private PurseHouse x = new PurseHouse();
    private int calls;
    private final List<ToIntFunction<PurseHouse>> deeds = new ArrayList<>();
    private final StringBuilder log = new StringBuilder();
    private boolean told;

    Pair(Due due) {
        this.due = due;
    }

    /** How many calls that have an effect an object has room for. */
    int room() {
        return LIFE - 1 - deeds.size();
    }

    private int answer(ToIntFunction<PurseHouse> call) {
        if (calls == LIFE) {
            renew();
        }
        calls++;
        return call.applyAsInt(x);
    }

    private void renew() {
        if (room() < 1) {
            throw new IllegalStateException("the test does more than an object lives");
        }
        x = new PurseHouse();
        for (ToIntFunction<PurseHouse> deed : deeds) {
            deed.applyAsInt(x);
        }
        calls = deeds.size();
    }

    /** A call that has no effect. */
    private int ask(String call, ToIntFunction<PurseHouse> made, int want, int... args) {
        int got = answer(made);
        String text = call + Arrays.toString(args);
        log.append(text).append('=').append(got).append(' ');
        due.is(text, got, want);
        if (got != want && !told) {
            told = true;
            System.out.println("behind " + log);
        }
        return got;
    }

    /** A call that has an effect, if it is not refused. */
    private int act(String call, ToIntFunction<PurseHouse> made, int want, int... args) {
        int got = ask(call, made, want, args);
        if (want >= 0) {
            deeds.add(made);
        }
        return got;
    }

    int feed(int a, int b, int c, int d, int e) {
        return act("feed", o -> o.feed(a, b, c, d, e), y.feed(a, b, c, d, e), a, b, c, d, e);
    }

    int cut(int n) {
        return act("cut", o -> o.cut(n), y.cut(n), n);
    }

    int hash(int what, int i) {
        return ask("hash", o -> o.hash(what, i), y.hash(what, i), what, i);
    }

    int seed() {
        return act("seed", o -> o.seed(), y.seed());
    }

    int gap(int n) {
        return act("gap", o -> o.gap(n), y.gap(n), n);
    }

    int key(int branch, int k, int i) {
        return ask("key", o -> o.key(branch, k, i), y.key(branch, k, i), branch, k, i);
    }

    int address(int branch, int k) {
        return act("address", o -> o.address(branch, k), y.address(branch, k), branch, k);
    }

    int mine(int b, int seconds) {
        return act("mine", o -> o.mine(b, seconds), y.mine(b, seconds), b, seconds);
    }

    int block(int b, int what) {
        return ask("block", o -> o.block(b, what), y.block(b, what), b, what);
    }

    int payment(int b, int i, int what) {
        return ask("payment", o -> o.payment(b, i, what), y.payment(b, i, what), b, i, what);
    }

    int filterByte(int b, int i) {
        return ask("filterByte", o -> o.filterByte(b, i), y.filterByte(b, i), b, i);
    }

    int waiting() {
        return ask("waiting", o -> o.waiting(), y.waiting());
    }

    int forget() {
        return act("forget", o -> o.forget(), y.forget());
    }

    int give(int b, int what, int place, int mask) {
        int want = y.give(b, what, place, mask);
        int got = ask("give", o -> o.give(b, what, place, mask), want, b, what, place, mask);
        if (want == 1) {
            deeds.add(o -> o.give(b, what, place, mask));
        }
        return got;
    }

    int header(int h, int what) {
        return ask("header", o -> o.header(h, what), y.header(h, what), h, what);
    }

    int chain(int what) {
        return ask("chain", o -> o.chain(what), y.chain(what), what);
    }

    int last(int branch) {
        return ask("last", o -> o.last(branch), y.last(branch), branch);
    }

    int coin(int i, int what) {
        return ask("coin", o -> o.coin(i, what), y.coin(i, what), i, what);
    }

    int sum(int what) {
        return ask("sum", o -> o.sum(what), y.sum(what), what);
    }

    int pay(int amount, int rate) {
        return act("pay", o -> o.pay(amount, rate), y.pay(amount, rate), amount, rate);
    }

    int draft(int d, int what) {
        return ask("draft", o -> o.draft(d, what), y.draft(d, what), d, what);
    }

    int sign(int d) {
        return act("sign", o -> o.sign(d), y.sign(d), d);
    }

    int draftByte(int d, int i) {
        return ask("draftByte", o -> o.draftByte(d, i), y.draftByte(d, i), d, i);
    }

    int send(int d, int place, int mask) {
        return act("send", o -> o.send(d, place, mask), y.send(d, place, mask), d, place, mask);
    }

    int drop(int d) {
        return act("drop", o -> o.drop(d), y.drop(d), d);
    }

    int check(int d) {
        return ask("check", o -> o.check(d), y.check(d), d);
    }

    // ---- what tests do again and again

    /** A purse with a seed, GAP 8, and n coins of 1,000 of KEYS 0, 1 .. of BRANCH 0, which blocks 1 .. n mint. */
    static Pair rich(Due due, int n) {
        Pair p = new Pair(due);
        p.plant(1);
        p.gap(8);
        p.giveAll(0);
        for (int b = 1; b <= n; b++) {
            p.mineFor(b - 1, 30, 0, b - 1);
        }
        due.is("coins", p.coin(-1, 0), n);
        return p;
    }

    /** Makes the tape empty. */
    void clear() {
        cut(y.tape.length);
    }

    /** A seed of twenty bytes. */
    void plant(int n) {
        clear();
        feed(n, 2, 3, 4, 5);
        seed();
    }

    /** Gives header, filter and block of a block. */
    void giveAll(int b) {
        give(b, 0, 0, 0);
        give(b, 1, 0, 0);
        give(b, 2, 0, 0);
    }

    /** Mines for a KEY of the purse and gives what was mined. */
    int mineFor(int before, int seconds, int branch, int k) {
        clear();
        address(branch, k);
        int b = mine(before, seconds);
        giveAll(b);
        return b;
    }

    /** Mines for nobody and gives what was mined. */
    int mineOn(int before) {
        clear();
        int b = mine(before, 30);
        giveAll(b);
        return b;
    }

    /** Pays to a stranger. */
    int payOut(int amount, int rate) {
        clear();
        feed(amount, rate, 99, 98, 97);
        return pay(amount, rate);
    }

    /** Pays to a KEY of the purse itself. */
    int payOwn(int amount, int branch, int k) {
        clear();
        address(branch, k);
        return pay(amount, 0);
    }

    /** Signs a draft that was made, and sends it. */
    int signAndSend(int d) {
        due.yes("a draft was made", d >= 0);
        sign(d);
        due.is("sent", send(d, 0, 0), 1);
        return d;
    }

    void look() {
        look(1);
    }

    /** The state of the purse, and of its coins one answer in so many. */
    void look(int step) {
        for (int what = 0; what < 6; what++) {
            chain(what);
        }
        last(0);
        last(1);
        sum(0);
        sum(1);
        int n = coin(-1, 0);
        for (int i = 0; i < n; i++) {
            for (int what = i % step; what < 7; what += step) {
                coin(i, what);
            }
        }
        waiting();
    }

    void lookAtMade() {
        lookAtMade(1);
    }

    /** Blocks and headers, one answer in so many. */
    void lookAtMade(int step) {
        for (int b = 0; b < y.made.size(); b++) {
            for (int what = b % step; what < 32; what += step) {
                block(b, what);
            }
            for (int i = 0; i < y.made.get(b).pays.size(); i++) {
                for (int what = i % step; what < 13; what += step) {
                    payment(b, i, what);
                }
            }
            for (int i = b % step; i <= y.made.get(b).filter.length; i += step) {
                filterByte(b, i);
            }
        }
        for (int h = 0; h < y.known.size(); h++) {
            for (int what = h % step; what < 14; what += step) {
                header(h, what);
            }
        }
    }

    /** What holds among the class's own answers on headers, whatever the reference tells. */
    void lookAtLaws() {
        String[] blocks = new String[y.made.size()];
        for (int b = 0; b < blocks.length; b++) {
            int of = b;
            blocks[b] = words(i -> answer(o -> o.block(of, 8 + i)));
        }
        int known = answer(o -> o.chain(2));
        for (int n = 0; n < known; n++) {
            int h = n;
            int before = answer(o -> o.header(h, 0));
            due.yes("the one before header " + h, h == 0 ? before == PurseHouse.NONE : before >= 0 && before < h);
            if (h > 0) {
                due.is("height of header " + h, answer(o -> o.header(h, 1)), answer(o -> o.header(before, 1)) + 1);
                int own = answer(o -> o.header(h, 2)) - answer(o -> o.header(before, 2));
                due.is("own work of header " + h, Integer.bitCount(own), 1);
            }
            int first = Arrays.asList(blocks).indexOf(words(i -> answer(o -> o.header(h, 6 + i))));
            due.is("block of header " + h, answer(o -> o.header(h, 5)), first < 0 ? PurseHouse.NONE : first);
        }
    }

    private static String words(IntUnaryOperator wordOf) {
        int[] all = new int[8];
        for (int i = 0; i < 8; i++) {
            all[i] = wordOf.applyAsInt(i);
        }
        return Arrays.toString(all);
    }

    void lookAtDrafts() {
        lookAtDrafts(1);
    }

    /** All numbers of the drafts, and of their bytes one in so many. */
    void lookAtDrafts(int step) {
        for (int d = 0; d < y.drafts.size(); d++) {
            for (int what = -1; what < 7; what++) {
                draft(d, what);
            }
            int length = y.drafts.get(d).bytes().length;
            draftByte(d, -1);
            for (int i = d % step; i < length; i += step) {
                draftByte(d, i);
            }
            draftByte(d, length);
            check(d);
        }
    }
}
