/** Promises 5 to 8: seed, gap, key, address. */
public final class KeysTest {
    private static final int BAD = PurseHouse.BAD;
    private static final int NONE = PurseHouse.NONE;
    private static final int FULL = PurseHouse.FULL;

    public static void main(String[] args) {
        Due due = new Due("keys");
        seedLengths(due);
        seedDropsDrafts(due);
        seedKeepsTheRest(due);
        gap(due);
        key(due);
        address(due);
        due.end();
    }

    /** Promise 5: 16 .. 64 bytes. */
    private static void seedLengths(Due due) {
        Pair p = new Pair(due);
        due.is("no bytes", p.seed(), BAD);
        p.feed(1, 2, 3, 4, 5);
        p.cut(5);
        due.is("15 bytes", p.seed(), BAD);
        due.is("the tape stays", p.cut(0), 15);
        due.is("no seed yet", p.key(0, 0, 0), BAD);
        p.feed(1, 2, 3, 4, 5);
        p.cut(19);
        due.is("16 bytes", p.seed(), 1);
        due.is("the tape is empty", p.cut(0), 0);
        p.key(0, 0, 5);
        for (int i = 0; i < 4; i++) {
            p.feed(i, 2, 3, 4, 5);
        }
        p.cut(15);
        due.is("65 bytes", p.seed(), BAD);
        due.is("the tape stays", p.cut(0), 65);
        p.key(0, 0, 5);
        p.cut(1);
        due.is("64 bytes", p.seed(), 1);
        p.key(0, 0, 5);
        p.key(1, 31, 32);
    }

    private static void seedDropsDrafts(Due due) {
        Pair p = new Pair(due);
        p.plant(1);
        p.giveAll(0);
        p.mineFor(0, 10, 0, 0);
        p.mineFor(1, 10, 0, 1);
        due.is("a draft", p.payOut(500, 1), 0);
        due.is("another", p.payOut(500, 1), 1);
        p.sign(1);
        p.send(1, 0, 0);
        p.plant(1);
        due.is("dropped", p.draft(0, 4), 0);
        due.is("dropped, though sent", p.draft(1, 4), 0);
        due.is("nothing to sign", p.sign(0), NONE);
        due.is("no bytes", p.draftByte(0, 0), BAD);
        due.is("what was sent waits on", p.waiting(), 1);
        due.is("nothing is LOCKED", p.sum(1), 2000);
        due.is("the next one's number", p.payOut(500, 1), 2);
        p.look();
        p.lookAtDrafts();
    }

    private static void seedKeepsTheRest(Due due) {
        Pair p = new Pair(due);
        p.plant(1);
        p.gap(5);
        p.giveAll(0);
        p.mineFor(0, 10, 0, 0);
        due.is("a coin", p.sum(0), 1000);
        p.plant(2);
        due.is("none of this seed", p.sum(0), 0);
        due.is("no KEY used", p.last(0), -1);
        due.is("GAP stays", p.gap(5), 5);
        due.is("headers stay", p.chain(2), 2);
        due.is("filters stay", p.header(1, 3), 1);
        due.is("blocks stay", p.header(1, 4), 1);
        p.plant(1);
        due.is("the old seed's coin", p.sum(0), 1000);
        p.look();
    }

    /** Promise 6. */
    private static void gap(Due due) {
        Pair p = new Pair(due);
        due.is("at first", p.gap(1), 3);
        due.is("gap(0)", p.gap(0), BAD);
        due.is("gap(9)", p.gap(9), BAD);
        due.is("gap(-1)", p.gap(-1), BAD);
        due.is("gap(8)", p.gap(8), 1);
        due.is("gap(3)", p.gap(3), 8);
        p.plant(1);
        p.giveAll(0);
        p.mineFor(0, 10, 0, 3);
        due.is("KEY 3 is not WATCHED", p.coin(-1, 0), 0);
        p.gap(4);
        due.is("KEY 3 is WATCHED", p.coin(-1, 0), 1);
        due.is("LAST", p.last(0), 3);
        p.gap(3);
        due.is("KEY 3 is not WATCHED", p.coin(-1, 0), 0);
        p.look();
    }

    /** Promise 7. */
    private static void key(Due due) {
        Pair p = new Pair(due);
        due.is("no seed", p.key(0, 0, 0), BAD);
        p.plant(7);
        for (int k = 0; k < 32; k++) {
            for (int i = 0; i < 33; i++) {
                p.key(k % 2, k, i);
                p.key(1 - k % 2, k, i);
            }
        }
        due.is("2 or 3", p.key(0, 0, 0) / 2, 1);
        due.is("branch -1", p.key(-1, 0, 0), BAD);
        due.is("branch 2", p.key(2, 0, 0), BAD);
        due.is("key -1", p.key(0, -1, 0), BAD);
        due.is("key 32", p.key(0, 32, 0), BAD);
        due.is("byte -1", p.key(0, 0, -1), BAD);
        due.is("byte 33", p.key(0, 0, 33), BAD);
        p.key(Integer.MIN_VALUE, Integer.MAX_VALUE, Integer.MIN_VALUE);
        for (int n = 20; n < 24; n++) {
            p.plant(n);
            p.key(0, n, 0);
            p.key(0, n, 32);
            p.key(1, 0, 0);
        }
    }

    /** Promise 8. */
    private static void address(Due due) {
        Pair p = new Pair(due);
        due.is("no seed", p.address(0, 0), BAD);
        p.plant(3);
        p.feed(1, 2, 3, 4, 5);
        due.is("behind the tape", p.address(0, 0), 40);
        p.hash(0, 0);
        due.is("another", p.address(1, 31), 60);
        p.hash(0, 0);
        due.is("branch 2", p.address(2, 0), BAD);
        due.is("branch -1", p.address(-1, 0), BAD);
        due.is("key 32", p.address(0, 32), BAD);
        due.is("key -1", p.address(1, -1), BAD);
        for (int i = 0; i < 7; i++) {
            p.address(0, i);
        }
        due.is("200 bytes", p.cut(0), 200);
        due.is("above 200", p.address(0, 0), FULL);
        due.is("none such comes first", p.address(0, 32), BAD);
        p.cut(1);
        due.is("above 200", p.address(0, 0), FULL);
        due.is("the tape stays", p.cut(0), 199);
        p.cut(19);
        due.is("to 200", p.address(0, 0), 200);
        p.hash(0, 0);
    }
}
