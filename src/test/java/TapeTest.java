import java.nio.charset.StandardCharsets;

/** Promises 1 to 4: a new object, feed, cut, hash. */
public final class TapeTest {
    private static final int BAD = PurseHouse.BAD;
    private static final int NONE = PurseHouse.NONE;
    private static final int FULL = PurseHouse.FULL;

    public static void main(String[] args) {
        Due due = new Due("tape");
        due.is("BAD", BAD, -1);
        due.is("NONE", NONE, -2);
        due.is("FULL", FULL, -3);
        newObject(due);
        objectsApart(due);
        feed(due);
        cut(due);
        hash(due);
        hashOfEveryLength(due);
        due.end();
    }

    /** Promise 1: "An empty tape, the first block, a purse without a seed." */
    private static void newObject(Due due) {
        Pair p = new Pair(due);
        due.is("the tape", p.cut(1), BAD);
        due.is("the tape", p.cut(0), 0);
        due.is("the first block", p.block(0, 0), NONE);
        due.is("one block", p.block(1, 0), BAD);
        due.is("D", p.block(0, 2), 2);
        due.is("TIME", p.block(0, 3), 0);
        due.is("its mint", p.payment(0, 0, 10), 1000);
        due.is("one payment", p.payment(0, 1, 0), BAD);
        due.is("known headers", p.chain(2), 1);
        due.is("header 0", p.header(0, 5), 0);
        due.is("header 1", p.header(1, 5), BAD);
        due.is("its filter", p.header(0, 3), 0);
        due.is("its block", p.header(0, 4), 0);
        due.is("waiting", p.waiting(), 0);
        due.is("nothing to forget", p.forget(), 0);
        due.is("no seed: key", p.key(0, 0, 0), BAD);
        due.is("no seed: address", p.address(0, 0), BAD);
        due.is("no seed: last", p.last(0), BAD);
        due.is("no seed: coin", p.coin(-1, 0), BAD);
        due.is("no seed: sum", p.sum(0), BAD);
        due.is("no seed: chain", p.chain(3), BAD);
        due.is("no draft", p.draft(0, 0), BAD);
        due.is("no draft", p.sign(0), BAD);
        due.is("no draft", p.draftByte(0, 0), BAD);
        due.is("no draft", p.send(0, 0, 0), BAD);
        due.is("no draft", p.drop(0), BAD);
        due.is("no draft", p.check(0), BAD);
        due.is("GAP", p.gap(1), 3);
        p.lookAtMade();
    }

    /** One object's calls leave another one as it is. */
    private static void objectsApart(Due due) {
        PurseHouse a = new PurseHouse();
        PurseHouse b = new PurseHouse();
        a.feed(1, 2, 3, 4, 5);
        a.seed();
        a.gap(8);
        a.mine(0, 10);
        a.give(1, 0, 0, 0);
        a.feed(1, 2, 3, 4, 5);
        due.is("the tape", b.cut(0), 0);
        due.is("no seed", b.key(0, 0, 0), BAD);
        due.is("one block", b.block(1, 0), BAD);
        due.is("one header", b.chain(2), 1);
        due.is("GAP", b.gap(3), 3);
    }

    /** Promise 2: "the highest of each number first: how many it has. FULL: above 200." */
    private static void feed(Due due) {
        Pair p = new Pair(due);
        p.feed(0x61626364, 0x65666768, 0x696a6b6c, 0x6d6e6f70, 0x71727374);
        byte[] letters = "abcdefghijklmnopqrst".getBytes(StandardCharsets.ISO_8859_1);
        for (int i = 0; i < 8; i++) {
            due.is("the HASH of a .. t", p.hash(0, i), Reference.word(Reference.hashOf(letters), i));
        }
        p.cut(20);
        for (int i = 1; i <= 10; i++) {
            due.is("feed", p.feed(i, -i, i << 24, Integer.MIN_VALUE + i, Integer.MAX_VALUE - i), 20 * i);
            p.hash(0, 0);
        }
        int before = p.hash(0, 3);
        due.is("feed above 200", p.feed(1, 2, 3, 4, 5), FULL);
        due.is("the tape stays", p.hash(0, 3), before);
        due.is("the tape stays", p.cut(0), 200);
        for (int n = 199; n > 180; n--) {
            due.is("cut", p.cut(1), n);
            due.is("feed above 200", p.feed(1, 2, 3, 4, 5), FULL);
            due.is("the tape stays", p.cut(0), n);
        }
        due.is("cut", p.cut(1), 180);
        due.is("feed to 200", p.feed(1, 2, 3, 4, 5), 200);
        p.hash(0, 7);
        p.cut(21);
        due.is("feed to 199", p.feed(1, 2, 3, 4, 5), 199);
    }

    /** Promise 3: "The last n bytes of the tape go: how many are left. BAD: it has not so many, n below 0." */
    private static void cut(Due due) {
        Pair p = new Pair(due);
        due.is("nothing of nothing", p.cut(0), 0);
        due.is("cut(1)", p.cut(1), BAD);
        p.feed(0x01020304, 0x05060708, 9, 10, 11);
        int before = p.hash(0, 0);
        for (int n : new int[] {-1, 21, 200, 201, Integer.MIN_VALUE, Integer.MAX_VALUE}) {
            due.is("cut(" + n + ")", p.cut(n), BAD);
        }
        due.is("cut(0)", p.cut(0), 20);
        due.is("the tape stays", p.hash(0, 0), before);
        due.is("cut(13)", p.cut(13), 7);
        byte[] first = {1, 2, 3, 4, 5, 6, 7};
        due.is("the first 7 are left", p.hash(0, 0), Reference.word(Reference.hashOf(first), 0));
        due.is("feed", p.feed(1, 2, 3, 4, 5), 27);
        p.hash(0, 0);
        due.is("cut(28)", p.cut(28), BAD);
        due.is("cut(26)", p.cut(26), 1);
        due.is("feed", p.feed(1, 2, 3, 4, 5), 21);
        due.is("cut(21)", p.cut(21), 0);
        due.is("the HASH of nothing", p.hash(0, 0), 0x5df6e0e2);
        due.is("cut(1)", p.cut(1), BAD);
    }

    /** Promise 4: "the tape stays. BAD: another what, i; fewer than 32 bytes with 1." */
    private static void hash(Due due) {
        Pair p = new Pair(due);
        due.is("the HASH of nothing", p.hash(0, 7), 0x5d4c9456);
        due.is("no 32 bytes", p.hash(1, 0), BAD);
        p.feed(0x61626300, 0, 0, 0, 0);
        p.cut(17);
        due.is("the HASH of abc", p.hash(0, 0), 0x4f8b42c2);
        p.feed(1, 2, 3, 4, 5);
        p.feed(6, 7, 8, 9, 10);
        p.cut(12);
        due.is("31 bytes", p.cut(0), 31);
        for (int i = 0; i < 8; i++) {
            due.is("31 bytes have no key", p.hash(1, i), BAD);
            p.hash(0, i);
        }
        p.feed(1, 2, 3, 4, 5);
        p.cut(18);
        due.is("33 bytes", p.cut(0), 33);
        for (int round = 0; round < 2; round++) {
            int before = p.hash(0, 0);
            for (int i = 0; i < 8; i++) {
                p.hash(1, i);
            }
            for (int i : new int[] {-1, 8, Integer.MIN_VALUE, Integer.MAX_VALUE}) {
                due.is("word " + i, p.hash(0, i), BAD);
                due.is("word " + i, p.hash(1, i), BAD);
            }
            for (int what : new int[] {-1, 2, Integer.MIN_VALUE, Integer.MAX_VALUE}) {
                due.is("what " + what, p.hash(what, 0), BAD);
                due.is("what " + what, p.hash(what, 7), BAD);
            }
            due.is("the tape stays", p.hash(0, 0), before);
            due.is("the tape stays", p.cut(0), 33 - round);
            due.is("32 bytes: nothing is behind its key", p.cut(1), 32 - round);
        }
    }

    /** Both, of 0 .. 200 bytes. */
    private static void hashOfEveryLength(Due due) {
        Pair p = new Pair(due);
        for (int i = 0; i < 10; i++) {
            p.feed(0x01234567 * (i + 1), 0x89abcdef * i, i, -i, i << 16);
        }
        for (int n = 200; n >= 0; n--) {
            for (int i = 0; i < 8; i++) {
                p.hash(0, i);
                p.hash(1, i);
            }
            p.cut(1);
        }
    }
}
