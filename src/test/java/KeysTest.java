/** Promises 5 to 8: seed, gap, key, address. */
public final class KeysTest {
    private static final int BAD = PurseHouse.BAD;
    private static final int NONE = PurseHouse.NONE;
    private static final int FULL = PurseHouse.FULL;

    public static void main(String[] args) {
        Due due = new Due("keys");
        seedLengths(due);
        seedRefused(due);
        seedDropsDrafts(due);
        seedKeepsTheRest(due);
        seedComesLate(due);
        gap(due);
        key(due);
        address(due);
        due.end();
    }

    /** Promise 5: "The tape (16 .. 64 bytes), which is empty then .. BAD: another length (the tape stays)." */
    private static void seedLengths(Due due) {
        Pair p = new Pair(due);
        for (int i = 0; i < 10; i++) {
            p.feed(i, 2, 3, 4, 5);
        }
        int left = 200;
        for (int n : new int[] {200, 66, 65}) {
            p.cut(left - n);
            left = n;
            int tape = p.hash(0, 0);
            due.is(n + " bytes", p.seed(), BAD);
            due.is("the tape stays", p.cut(0), n);
            due.is("the tape stays", p.hash(0, 0), tape);
            due.is("no seed yet", p.key(0, 0, 0), BAD);
        }
        p.cut(1);
        due.is("64 bytes", p.seed(), 1);
        due.is("the tape is empty", p.cut(0), 0);
        p.key(0, 0, 5);
        p.key(1, 31, 32);
        due.is("no bytes", p.seed(), BAD);
        for (int n : new int[] {1, 15}) {
            p.feed(1, 2, 3, 4, 5);
            p.cut(20 - n);
            int tape = p.hash(0, 0);
            due.is(n + " bytes", p.seed(), BAD);
            due.is("the tape stays", p.cut(0), n);
            due.is("the tape stays", p.hash(0, 0), tape);
            p.cut(n);
        }
        for (int n : new int[] {16, 17, 63}) {
            p.feed(1, 2, 3, 4, 5);
            p.feed(6, 7, 8, 9, 10);
            p.feed(6, 7, 8, 9, 10);
            p.feed(6, 7, 8, 9, 10);
            p.cut(80 - n);
            due.is(n + " bytes", p.seed(), 1);
            due.is("the tape is empty", p.cut(0), 0);
            p.key(0, 0, 5);
            p.key(1, 0, 5);
        }
    }

    /** A refused seed leaves the one that was, and the drafts. */
    private static void seedRefused(Due due) {
        Pair p = Pair.rich(due, 2);
        int d = p.payOut(500, 0);
        int key = p.key(0, 3, 7);
        p.feed(1, 2, 3, 4, 5);
        p.cut(5);
        due.is("15 bytes", p.seed(), BAD);
        for (int i = 0; i < 3; i++) {
            p.feed(1, 2, 3, 4, 5);
        }
        due.is("75 bytes", p.seed(), BAD);
        due.is("the draft is as it was", p.draft(d, 4), 1);
        due.is("LOCKED", p.sum(1), 1000);
        due.is("coins", p.coin(-1, 0), 2);
        due.is("the KEY", p.key(0, 3, 7), key);
        p.look();
    }

    /** "drafts are dropped (they count on among the 16)": made, SIGNED or sent. */
    private static void seedDropsDrafts(Due due) {
        Pair p = Pair.rich(due, 3);
        for (int d = 0; d < 3; d++) {
            due.is("a draft", p.payOut(1000, 0), d);
        }
        p.sign(1);
        p.sign(2);
        p.send(2, 0, 0);
        due.is("LOCKED", p.sum(1), 0);
        p.plant(1);
        for (int d = 0; d < 3; d++) {
            due.is("dropped", p.draft(d, 4), 0);
            due.is("nothing to sign", p.sign(d), NONE);
            due.is("nothing to drop", p.drop(d), NONE);
            due.is("no bytes", p.draftByte(d, 0), BAD);
            due.is("nothing to check", p.check(d), BAD);
            due.is("nothing to send", p.send(d, 0, 0), NONE);
        }
        due.is("what was sent waits on", p.waiting(), 1);
        due.is("nothing is LOCKED", p.sum(1), 3000);
        due.is("the next one's number", p.payOut(500, 1), 3);
        for (int d = 4; d < 16; d++) {
            p.drop(d - 1);
            due.is("the next one's number", p.payOut(500, 1), d);
        }
        p.plant(1);
        due.is("16 were made", p.payOut(500, 1), FULL);
        p.look();
    }

    /** "all else of the purse stays". */
    private static void seedKeepsTheRest(Due due) {
        Pair p = new Pair(due);
        p.plant(1);
        p.gap(5);
        p.giveAll(0);
        p.mineFor(0, 10, 0, 0);
        due.is("a coin", p.sum(0), 1000);
        p.plant(2);
        due.is("none of this seed", p.sum(0), 0);
        due.is("no KEY used", p.last(0), -1);
        due.is("GAP stays", p.gap(5), 5);
        due.is("headers stay", p.chain(2), 2);
        due.is("the chain stays", p.chain(0), 1);
        due.is("filters stay", p.header(1, 3), 1);
        due.is("blocks stay", p.header(1, 4), 1);
        due.is("it had that", p.give(1, 0, 0, 0), 2);
        due.is("it had that", p.give(1, 1, 0, 0), 2);
        due.is("it had that", p.give(1, 2, 0, 0), 2);
        due.is("to the end", p.chain(3), NONE);
        p.mineFor(1, 10, 0, 4);
        due.is("a coin of this seed, by the GAP that was", p.sum(0), 1000);
        p.plant(1);
        due.is("the old seed's coin", p.sum(0), 1000);
        due.is("its HEIGHT", p.coin(0, 3), 1);
        p.look();
    }

    /** A purse may get headers, filters and blocks before it has a seed. */
    private static void seedComesLate(Due due) {
        Pair p = new Pair(due);
        p.giveAll(0);
        byte[] address = new Reference.Ring(Reference.join(Reference.number(1, 4), Reference.number(2, 4),
                Reference.number(3, 4), Reference.number(4, 4), Reference.number(5, 4))).get(0, 0).address();
        p.feed(Reference.word(address, 0), Reference.word(address, 1), Reference.word(address, 2),
                Reference.word(address, 3), Reference.word(address, 4));
        p.giveAll(p.mine(0, 10));
        due.is("no seed, no coin", p.coin(-1, 0), BAD);
        p.plant(1);
        due.is("the coin", p.sum(0), 1000);
        due.is("LAST", p.last(0), 0);
    }

    /** Promise 6: "GAP, 1 .. 8 (3 at first): what it was. BAD: another number." */
    private static void gap(Due due) {
        Pair p = new Pair(due);
        due.is("at first", p.gap(1), 3);
        for (int n : new int[] {0, 9, -1, Integer.MIN_VALUE, Integer.MAX_VALUE}) {
            due.is("gap(" + n + ")", p.gap(n), BAD);
        }
        due.is("what it was stays", p.gap(8), 1);
        for (int n = 1; n <= 8; n++) {
            due.is("what it was", p.gap(n), n == 1 ? 8 : n - 1);
        }
        due.is("gap(3)", p.gap(3), 8);
        p.plant(1);
        p.giveAll(0);
        p.mineFor(0, 10, 0, 3);
        due.is("KEY 3 is not WATCHED", p.coin(-1, 0), 0);
        p.gap(4);
        due.is("KEY 3 is WATCHED", p.coin(-1, 0), 1);
        due.is("LAST", p.last(0), 3);
        due.is("gap(9)", p.gap(9), BAD);
        due.is("KEY 3 is WATCHED still", p.coin(-1, 0), 1);
        p.gap(3);
        due.is("KEY 3 is not WATCHED", p.coin(-1, 0), 0);
        due.is("LAST", p.last(0), -1);
        p.look();
    }

    /** Promise 7: "Byte i (0 .. 32) of the PUBLIC KEY of KEY k of a BRANCH. BAD: no seed, none such." */
    private static void key(Due due) {
        Pair p = new Pair(due);
        due.is("no seed", p.key(0, 0, 0), BAD);
        due.is("no seed", p.key(1, 31, 32), BAD);
        p.plant(7);
        for (int k = 0; k < 32; k++) {
            for (int i = 0; i < 33; i++) {
                p.key(k % 2, k, i);
                p.key(1 - k % 2, k, i);
            }
        }
        due.is("2 or 3", p.key(0, 0, 0) / 2, 1);
        for (int n : new int[] {-1, Integer.MIN_VALUE, Integer.MAX_VALUE}) {
            due.is("branch " + n, p.key(n, 0, 0), BAD);
            due.is("key " + n, p.key(0, n, 0), BAD);
            due.is("byte " + n, p.key(0, 0, n), BAD);
            due.is("byte " + n, p.key(1, 31, n), BAD);
        }
        for (int branch = 0; branch < 2; branch++) {
            due.is("key 32", p.key(branch, 32, 0), BAD);
            due.is("byte 33", p.key(branch, 31, 33), BAD);
            due.yes("the last byte of the last key", p.key(branch, 31, 32) >= 0);
        }
        due.is("branch 2", p.key(2, 0, 0), BAD);
        for (int n = 20; n < 24; n++) {
            p.plant(n);
            p.key(0, n, 0);
            p.key(0, n, 32);
            p.key(1, 0, 0);
        }
    }

    /** Promise 8: "The ADDRESS of a KEY comes behind the tape .. BAD: no seed, none such; FULL: above 200." */
    private static void address(Due due) {
        Pair p = new Pair(due);
        due.is("no seed", p.address(0, 0), BAD);
        p.plant(3);
        p.feed(1, 2, 3, 4, 5);
        due.is("behind the tape", p.address(0, 0), 40);
        p.hash(0, 0);
        due.is("another", p.address(1, 31), 60);
        p.hash(0, 0);
        due.is("another", p.address(0, 31), 80);
        int tape = p.hash(0, 0);
        for (int n : new int[] {-1, Integer.MIN_VALUE, Integer.MAX_VALUE}) {
            due.is("branch " + n, p.address(n, 0), BAD);
            due.is("key " + n, p.address(1, n), BAD);
        }
        due.is("branch 2", p.address(2, 0), BAD);
        due.is("key 32", p.address(0, 32), BAD);
        due.is("key 32", p.address(1, 32), BAD);
        due.is("the tape stays", p.cut(0), 80);
        due.is("the tape stays", p.hash(0, 0), tape);
        for (int i = 0; i < 6; i++) {
            p.address(0, i);
        }
        due.is("200 bytes", p.cut(0), 200);
        tape = p.hash(0, 0);
        due.is("above 200", p.address(0, 0), FULL);
        due.is("none such", p.address(0, 32), BAD);
        due.is("the tape stays", p.cut(0), 200);
        due.is("the tape stays", p.hash(0, 0), tape);
        p.cut(19);
        due.is("above 200", p.address(0, 0), FULL);
        due.is("the tape stays", p.cut(0), 181);
        p.cut(1);
        due.is("to 200", p.address(0, 0), 200);
        p.hash(0, 0);
        p.cut(21);
        due.is("to 199", p.address(1, 1), 199);
        p.hash(0, 0);
    }
}
