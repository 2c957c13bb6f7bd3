/** Promises 1 to 4: a new object, feed, cut, hash. */
public final class TapeTest {
    private static final int BAD = PurseHouse.BAD;
    private static final int NONE = PurseHouse.NONE;
    private static final int FULL = PurseHouse.FULL;

    public static void main(String[] args) {
        Due due = new Due("tape");
        due.is("BAD", BAD, -1);
        due.is("NONE", NONE, -2);
        due.is("FULL", FULL, -3);
        newObject(due);
        feed(due);
        cut(due);
        hash(due);
        hashOfEveryLength(due);
        due.end();
    }

    /** Promise 1. */
    private static void newObject(Due due) {
        Pair p = new Pair(due);
        due.is("the tape", p.cut(1), BAD);
        due.is("the tape", p.cut(0), 0);
        due.is("the first block", p.block(0, 0), NONE);
        due.is("one block", p.block(1, 0), BAD);
        due.is("D", p.block(0, 2), 2);
        due.is("TIME", p.block(0, 3), 0);
        due.is("its mint", p.payment(0, 0, 10), 1000);
        due.is("one payment", p.payment(0, 1, 0), BAD);
        due.is("known headers", p.chain(2), 1);
        due.is("header 0", p.header(0, 5), 0);
        due.is("header 1", p.header(1, 5), BAD);
        due.is("its filter", p.header(0, 3), 0);
        due.is("its block", p.header(0, 4), 0);
        due.is("waiting", p.waiting(), 0);
        due.is("no seed: key", p.key(0, 0, 0), BAD);
        due.is("no seed: address", p.address(0, 0), BAD);
        due.is("no seed: last", p.last(0), BAD);
        due.is("no seed: coin", p.coin(-1, 0), BAD);
        due.is("no seed: sum", p.sum(0), BAD);
        due.is("no seed: chain", p.chain(3), BAD);
        due.is("no draft", p.draft(0, 0), BAD);
        due.is("GAP", p.gap(1), 3);
        p.lookAtMade();
    }

    /** Promise 2. */
    private static void feed(Due due) {
        Pair p = new Pair(due);
        for (int i = 1; i <= 10; i++) {
            due.is("feed", p.feed(i, -i, i << 24, Integer.MIN_VALUE + i, Integer.MAX_VALUE - i), 20 * i);
            p.hash(0, 0);
        }
        int before = p.hash(0, 3);
        due.is("feed above 200", p.feed(1, 2, 3, 4, 5), FULL);
        due.is("the tape stays", p.hash(0, 3), before);
        due.is("cut", p.cut(19), 181);
        due.is("feed above 200", p.feed(1, 2, 3, 4, 5), FULL);
        due.is("cut", p.cut(1), 180);
        due.is("feed to 200", p.feed(1, 2, 3, 4, 5), 200);
        p.hash(0, 7);
    }

    /** Promise 3. */
    private static void cut(Due due) {
        Pair p = new Pair(due);
        p.feed(0x01020304, 0x05060708, 9, 10, 11);
        due.is("cut(-1)", p.cut(-1), BAD);
        due.is("cut(least)", p.cut(Integer.MIN_VALUE), BAD);
        due.is("cut(most)", p.cut(Integer.MAX_VALUE), BAD);
        due.is("cut(21)", p.cut(21), BAD);
        due.is("cut(0)", p.cut(0), 20);
        due.is("cut(13)", p.cut(13), 7);
        p.hash(0, 0);
        due.is("feed", p.feed(1, 2, 3, 4, 5), 27);
        p.hash(0, 0);
        due.is("cut(27)", p.cut(27), 0);
        due.is("the HASH of nothing", p.hash(0, 0), 0x5df6e0e2);
        due.is("cut(1)", p.cut(1), BAD);
    }

    /** Promise 4. */
    private static void hash(Due due) {
        Pair p = new Pair(due);
        due.is("the HASH of nothing", p.hash(0, 7), 0x5d4c9456);
        due.is("no 32 bytes", p.hash(1, 0), BAD);
        p.feed(0x61626300, 0, 0, 0, 0);
        p.cut(17);
        due.is("the HASH of abc", p.hash(0, 0), 0x4f8b42c2);
        due.is("what -1", p.hash(-1, 0), BAD);
        due.is("what 2", p.hash(2, 0), BAD);
        due.is("word -1", p.hash(0, -1), BAD);
        due.is("word 8", p.hash(0, 8), BAD);
        p.feed(1, 2, 3, 4, 5);
        p.feed(6, 7, 8, 9, 10);
        p.cut(12);
        due.is("31 bytes", p.cut(0), 31);
        due.is("31 bytes have no key", p.hash(1, 0), BAD);
        p.feed(1, 2, 3, 4, 5);
        p.cut(19);
        due.is("32 bytes", p.cut(0), 32);
        for (int i = -1; i < 9; i++) {
            p.hash(1, i);
        }
        due.is("the tape stays", p.cut(0), 32);
    }

    private static void hashOfEveryLength(Due due) {
        Pair p = new Pair(due);
        for (int i = 0; i < 10; i++) {
            p.feed(0x01234567 * (i + 1), 0x89abcdef * i, i, -i, i << 16);
        }
        due.is("what 2", p.hash(2, 0), BAD);
        due.is("what -1", p.hash(-1, 0), BAD);
        due.is("word 8", p.hash(1, 8), BAD);
        due.is("word -1", p.hash(1, -1), BAD);
        for (int n = 200; n >= 0; n--) {
            for (int i = 0; i < 8; i++) {
                p.hash(0, i);
                p.hash(1, i);
            }
            p.cut(1);
        }
    }
}
