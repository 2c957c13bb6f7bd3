import java.util.ArrayList;
import java.util.Arrays;
import java.util.List;

/** What 3 BLOCKS says: D, TIME, PROVED, ROOT and FILTER, at the makers and at the purse. */
public final class BlocksTest {
    private static final int NONE = PurseHouse.NONE;
    private static final int TIME = 96;
    private static final int D = 100;
    private static final int NONCE = 101;

    public static void main(String[] args) {
        Due due = new Due("blocks");
        firstBlock(due);
        spanEdges(due);
        spanOfThreeSteps(due);
        everyFourth(due);
        sixAtMost(due);
        oneAtLeast(due);
        upAndDown(due);
        workAndHeight(due);
        leastNonce(due);
        provedByZeros(due);
        otherDifficulty(due);
        otherDifficultyAtFour(due);
        timeBefore(due);
        timeBelowTwoToThe31(due);
        roots(due);
        filterOfOne(due);
        addressOnce(due);
        equalNumbers(due);
        filterSteps(due);
        filterEnds(due);
        due.end();
    }

    /** "its block before is 32 times 0, its MINT has 1,000 for 20 times 255, TIME 0"; "of HEIGHT 0 it is 2". */
    private static void firstBlock(Due due) {
        Pair p = new Pair(due);
        due.is("none before", p.block(0, 0), NONE);
        due.is("HEIGHT", p.block(0, 1), 0);
        due.is("D", p.block(0, 2), 2);
        due.is("TIME", p.block(0, 3), 0);
        due.is("WORK", p.block(0, 7), 4);
        byte[] mint = Reference.join(0, 0, 0, 1, 0, 0, 3, 232, Reference.ones());
        byte[] filter = Reference.filter(new byte[32], Arrays.asList(Reference.ones()));
        byte[] header = Reference.join(new byte[32], Reference.hashOf(mint), Reference.hashOf(filter), new byte[4], 2,
                Reference.number(p.block(0, 4), 4));
        for (int i = 0; i < 8; i++) {
            due.is("ID", p.block(0, 8 + i), Reference.word(Reference.hashOf(header), i));
        }
    }

    /** D of height 4, if the TIME of height 3 is so many seconds after that of height 0. */
    private static int bitsBehind(Due due, int span) {
        Pair p = new Pair(due);
        p.mine(0, 0);
        p.mine(1, span / 2);
        p.mine(2, span - span / 2);
        return p.block(p.mine(3, 1000), 2);
    }

    /** "one more .., if the TIME of that is less than 40 after ..., one less .., if more than 160 after". */
    private static void spanEdges(Due due) {
        int[] spans = {0, 38, 39, 40, 41, 159, 160, 161, 162};
        int[] bits = {3, 3, 3, 2, 2, 2, 2, 1, 1};
        for (int i = 0; i < spans.length; i++) {
            due.is("D behind " + spans[i] + " seconds", bitsBehind(due, spans[i]), bits[i]);
        }
    }

    /** "the TIME of that [the block before] .. after that of the block four before this one": three steps count. */
    private static void spanOfThreeSteps(Due due) {
        int[][] steps = {{1000, 20, 10, 9}, {1000, 20, 10, 10}, {0, 60, 60, 40}, {0, 60, 60, 41}};
        int[] want = {3, 2, 2, 1};
        for (int i = 0; i < steps.length; i++) {
            for (int last : new int[] {0, 1000}) {
                Pair p = new Pair(due);
                int b = 0;
                for (int j = 0; j < 3; j++) {
                    b = p.mine(b, 20);
                }
                for (int step : steps[i]) {
                    b = p.mine(b, step);
                }
                due.is("D of height 7", p.block(b, 2), 2);
                b = p.mine(b, last);
                due.is("HEIGHT", p.block(b, 1), 8);
                due.is("D of height 8", p.block(b, 2), want[i]);
            }
        }
    }

    /** "if its HEIGHT is a multiple of 4 ..; else that of the block before". */
    private static void everyFourth(Due due) {
        Pair p = new Pair(due);
        int[] want = {2, 2, 2, 2, 3, 3, 3, 3, 4, 4, 4, 4, 5, 5, 5, 5, 6};
        for (int height = 1; height < want.length; height++) {
            due.is("D of height " + height, p.block(p.mine(height - 1, 0), 2), want[height]);
        }
        Pair q = new Pair(due);
        for (int height = 1; height < 8; height++) {
            due.is("D of height " + height, q.block(q.mine(height - 1, 1000), 2), height < 4 ? 2 : 1);
        }
    }

    /** "one more (6 at most)". */
    private static void sixAtMost(Due due) {
        Pair p = new Pair(due);
        for (int b = 1; b < 29; b++) {
            p.mine(b - 1, 0);
            due.is("D of height " + b, p.block(b, 2), Math.min(6, 2 + b / 4));
        }
        p.lookAtMade(7);
    }

    /** "one less (1 at least)". */
    private static void oneAtLeast(Due due) {
        Pair p = new Pair(due);
        for (int b = 1; b < 14; b++) {
            p.mine(b - 1, 1000);
            due.is("D of height " + b, p.block(b, 2), b < 4 ? 2 : 1);
        }
        p.lookAtMade(7);
    }

    /** From 6 down, from 1 up, and as it was between. */
    private static void upAndDown(Due due) {
        Pair p = new Pair(due);
        int b = 0;
        int[] paces = {0, 0, 0, 0, 1000, 20, 1000, 1000, 1000, 1000};
        int[] want = {3, 4, 5, 6, 5, 5, 4, 3, 2, 1};
        b = p.mine(b, 0);
        for (int i = 0; i < paces.length && b < 37; i++) {
            for (int j = 0; j < 3 && b < 37; j++) {
                b = p.mine(b, j == 2 ? 30 : paces[i]);
            }
            if (b < 37) {
                due.is("D in the middle", p.block(b, 2), want[i]);
                b = p.mine(b, 0);
            }
        }
        Pair q = new Pair(due);
        b = 0;
        for (int i = 0; i < 7; i++) {
            b = q.mine(b, i < 4 ? 1000 : 0);
        }
        due.is("D of height 7", q.block(b, 2), 1);
        due.is("D of height 8: up from 1", q.block(q.mine(b, 0), 2), 2);
    }

    /** "WORK is 2^D; of a block the sum of its own and of all before. HEIGHT: .. one more than that before." */
    private static void workAndHeight(Due due) {
        Pair p = new Pair(due);
        int work = 4;
        for (int b = 1; b < 20; b++) {
            p.mine(b - 1, 0);
            work += 1 << p.block(b, 2);
            due.is("WORK", p.block(b, 7), work);
            due.is("HEIGHT", p.block(b, 1), b);
        }
        int side = p.mine(5, 10);
        due.is("WORK on block 5", p.block(side, 7), p.block(6, 7));
        due.is("HEIGHT on block 5", p.block(side, 1), 6);
        due.is("the block before", p.block(side, 0), 5);
    }

    /** "NONCE is the least from 0 on with which it is PROVED". */
    private static void leastNonce(Due due) {
        Pair p = new Pair(due);
        int greatest = 0;
        for (int b = 0; b < 22; b++) {
            int nonce = p.block(b, 4);
            byte[] raw = p.y.made.get(b).header.raw.clone();
            for (int n = 0; n <= nonce; n++) {
                System.arraycopy(Reference.number(n, 4), 0, raw, NONCE, 4);
                due.yes("NONCE " + n + " of block " + b, zeros(raw) >= p.block(b, 2) == (n == nonce));
            }
            greatest = Math.max(greatest, nonce);
            p.mine(b, 0);
        }
        due.yes("some NONCE is above 63", greatest > 63);
    }

    /** With how many bits 0 the ID of a header begins. */
    private static int zeros(byte[] raw) {
        return 256 - Reference.big(Reference.hashOf(raw)).bitLength();
    }

    private static byte[] spoiled(Pair p, int b, int place, int mask) {
        byte[] raw = p.y.made.get(b).header.raw.clone();
        raw[place] ^= (byte) mask;
        return raw;
    }

    /** "it is PROVED if that begins with D bits 0": D - 1 are too few, D and more do; for each D. */
    private static void provedByZeros(Due due) {
        Pair fast = new Pair(due);
        for (int b = 1; b < 18; b++) {
            fast.mine(b - 1, 0);
            if (b == 1 || b % 4 == 1) {
                provedAt(fast, b);
            }
            fast.give(b, 0, 0, 0);
        }
        Pair slow = new Pair(due);
        for (int b = 1; b < 6; b++) {
            slow.mine(b - 1, 1000);
            if (b == 5) {
                provedAt(slow, b);
            }
            slow.give(b, 0, 0, 0);
        }
    }

    private static void provedAt(Pair p, int b) {
        int bits = p.block(b, 2);
        boolean[] seen = new boolean[3];
        for (int i = 0; i < 4 * 255; i++) {
            int place = NONCE + i / 255;
            int mask = 1 + i % 255;
            int above = zeros(spoiled(p, b, place, mask)) - bits;
            int kind = Math.min(above + 1, 2);
            if (kind >= 0 && !seen[kind]) {
                seen[kind] = true;
                p.due.is((bits + above) + " bits 0 for D " + bits, p.give(b, 0, place, mask), kind == 0 ? 0 : 1);
            }
        }
        p.due.yes("one too few, just as many, and more for D " + bits, seen[0] && seen[1] && seen[2]);
    }

    /** Gives a header whose D is another, though it is PROVED by that; answers whether there was one. */
    private static boolean giveOtherD(Pair p, int b, int bits) {
        int mask = p.block(b, 2) ^ bits;
        if (zeros(spoiled(p, b, D, mask)) < bits) {
            return false;
        }
        p.due.is("D " + bits + " where it has to be " + p.block(b, 2), p.give(b, 0, D, mask), 0);
        return true;
    }

    /** "its D is what it has to be": a header is refused for its D alone. */
    private static void otherDifficulty(Due due) {
        Pair p = new Pair(due);
        boolean[] seen = new boolean[4];
        for (int b = 1; b < 39; b++) {
            p.mine(0, b);
            for (int bits = 0; bits < 4; bits++) {
                seen[bits] |= bits != 2 && giveOtherD(p, b, bits);
            }
        }
        due.yes("D 0, 1 and 3 were given, PROVED", seen[0] && seen[1] && seen[3]);
        due.is("none was taken", p.chain(2), 1);
        due.is("D 2", p.give(1, 0, 0, 0), 1);
    }

    /** The same where D changes: what the block before has will not do. */
    private static void otherDifficultyAtFour(Due due) {
        for (int pace : new int[] {0, 1000}) {
            Pair p = new Pair(due);
            for (int b = 1; b < 4; b++) {
                p.mine(b - 1, pace);
                p.give(b, 0, 0, 0);
            }
            int right = pace == 0 ? 3 : 1;
            boolean[] seen = new boolean[5];
            for (int b = 4; b < 39; b++) {
                p.mine(3, b);
                for (int bits = 0; bits < 5; bits++) {
                    seen[bits] |= bits != right && giveOtherD(p, b, bits);
                }
            }
            due.yes("D as before, PROVED", seen[2]);
            due.yes("D two off, PROVED", seen[pace == 0 ? 4 : 3]);
            due.is("none was taken", p.chain(2), 4);
            due.is("the right D", p.give(4, 0, 0, 0), 1);
        }
    }

    /** "TIME is not less than that of the block before": one less, the same, one more, each PROVED. */
    private static void timeBefore(Due due) {
        Pair p = new Pair(due);
        p.mine(0, 100);
        p.give(1, 0, 0, 0);
        boolean[] seen = new boolean[3];
        for (int b = 2; b < 40; b++) {
            p.mine(1, b);
            for (int i = 0; i < 3; i++) {
                int mask = 100 + b ^ 99 + i;
                if (mask != 0 && !seen[i] && zeros(spoiled(p, b, TIME + 3, mask)) >= 2) {
                    seen[i] = true;
                    due.is("TIME " + (99 + i) + " behind 100", p.give(b, 0, TIME + 3, mask), i == 0 ? 0 : 1);
                }
            }
        }
        due.yes("one less, the same and one more were given, PROVED", seen[0] && seen[1] && seen[2]);
    }

    /** "and below 2^31": with the highest byte as 127, 128 and 255. */
    private static void timeBelowTwoToThe31(Due due) {
        Pair p = new Pair(due);
        int[] masks = {127, 128, 255};
        boolean[] seen = new boolean[3];
        for (int b = 1; b < 39; b++) {
            p.mine(0, b);
            for (int i = 0; i < 3; i++) {
                if (!seen[i] && zeros(spoiled(p, b, TIME, masks[i])) >= 2) {
                    seen[i] = true;
                    due.is("TIME from " + masks[i] + " times 2^24 on", p.give(b, 0, TIME, masks[i]), i == 0 ? 1 : 0);
                }
            }
        }
        due.yes("each was given, PROVED", seen[0] && seen[1] && seen[2]);
    }

    private static byte[] idOf(Pair p, int b, int i) {
        byte[] out = new byte[0];
        for (int word = 0; word < 8; word++) {
            out = Reference.join(out, Reference.number(p.payment(b, i, 2 + word), 4));
        }
        return out;
    }

    private static byte[] together(byte[] a, byte[] b) {
        return Reference.hashOf(Reference.join(a, b));
    }

    private static void rootIs(Pair p, int b, byte[] root) {
        for (int i = 0; i < 8; i++) {
            p.due.is("ROOT of " + p.block(b, 5) + " payments", p.block(b, 16 + i), Reference.word(root, i));
        }
    }

    /** "each two HASHED together (the last one with itself, if it is alone), so on till one is left". */
    private static void roots(Due due) {
        Pair p = Pair.rich(due, 4);
        rootIs(p, 4, idOf(p, 4, 0));
        for (int payments = 2; payments <= 4; payments++) {
            for (int i = 1; i < payments; i++) {
                p.signAndSend(p.payOut(1000 - i, 0));
            }
            int b = p.mine(4, 30);
            due.is("payments", p.block(b, 5), payments);
            byte[] two = together(idOf(p, b, 0), idOf(p, b, 1));
            rootIs(p, b, payments == 2 ? two
                    : together(two, together(idOf(p, b, 2), idOf(p, b, payments == 3 ? 2 : 3))));
            for (int d = 0; d < p.y.drafts.size(); d++) {
                p.drop(d);
            }
        }
    }

    private static void filterIs(Pair p, int b, byte[] filter) {
        p.due.is("bytes of the filter", p.block(b, 6), filter.length);
        for (int i = 0; i < filter.length; i++) {
            p.due.is("byte " + i + " of the filter", p.filterByte(b, i), filter[i] & 255);
        }
        byte[] hash = Reference.hashOf(filter);
        for (int i = 0; i < 8; i++) {
            p.due.is("FILTER", p.block(b, 24 + i), Reference.word(hash, i));
        }
    }

    private static byte[] stranger(int n) {
        return Reference.join(Reference.number(n, 4), new byte[16]);
    }

    private static int mineForStranger(Pair p, int on, int n) {
        p.clear();
        p.feed(n, 0, 0, 0, 0);
        return p.mine(on, 30);
    }

    /** One number of 0 .. 63: its 6 bits behind a 0, and a 0 behind them. */
    private static void filterOfOne(Due due) {
        Pair p = new Pair(due);
        byte[] before = p.y.made.get(0).header.id;
        for (int number : new int[] {0, 1, 31, 32, 62, 63}) {
            int n = 0;
            while (Reference.filterNumber(before, stranger(n), 1) != number) {
                n++;
            }
            int b = mineForStranger(p, 0, n);
            filterIs(p, b, new byte[] {1, (byte) (number << 1)});
        }
    }

    /** "for each ADDRESS (once)": of outputs, and of outputs that inputs name. */
    private static void addressOnce(Due due) {
        Pair p = Pair.rich(due, 2);
        p.clear();
        p.feed(7, 0, 0, 0, 0);
        int d = p.pay(1000, 0);
        p.signAndSend(d);
        int b = p.mine(2, 30);
        due.is("payments", p.block(b, 5), 2);
        due.is("nobody, the stranger, and whom the input was for", p.filterByte(b, 0), 3);
        p.send(d, 0, 0);
        b = mineForStranger(p, 2, 7);
        due.is("the stranger twice, and whom the input was for", p.filterByte(b, 0), 2);
        p.send(d, 0, 0);
        p.clear();
        p.address(0, 0);
        b = p.mine(2, 30);
        due.is("the KEY that is paid, and pays, and the stranger", p.filterByte(b, 0), 2);
        d = p.payOwn(1000, 0, 1);
        p.signAndSend(d);
        p.address(0, 1);
        b = p.mine(2, 30);
        due.is("payments", p.block(b, 5), 2);
        due.is("one KEY for all", p.filterByte(b, 0), 1);
        p.lookAtMade(3);
    }

    /** Two ADDRESSES may have one number: both count, and the second is 0 more than the first. */
    private static void equalNumbers(Due due) {
        Pair p = Pair.rich(due, 1);
        byte[] before = p.y.made.get(1).header.id;
        p.feed(7, 0, 0, 0, 0);
        p.signAndSend(p.pay(1000, 0));
        long number = Reference.filterNumber(before, stranger(7), 3);
        int n = 8;
        while (Reference.filterNumber(before, stranger(n), 3) != number) {
            n++;
        }
        int b = mineForStranger(p, 1, n);
        due.is("numbers", p.filterByte(b, 0), 3);
        filterIs(p, b, p.y.made.get(b).filter);
        due.is("different ones", Reference.numbersOf(p.y.made.get(b).filter).size(), 2);
    }

    /** "divided by 64 as so many 1s, and a 0; the rest as 6 bits": steps around 64, 128 and 192. */
    private static void filterSteps(Due due) {
        Pair p = new Pair(due);
        p.plant(1);
        byte[] own = p.y.own.get(0, 0).address();
        byte[] change = p.y.own.get(1, 0).address();
        p.giveAll(0);
        int on = p.mineFor(0, 30, 0, 0);
        while (numberAt(p, on, own) > 120 || numberAt(p, on, change) > 120) {
            on = p.mineFor(on, 30, 0, 0);
        }
        int payee = 0;
        while (numberAt(p, on, stranger(payee)) > 60) {
            payee++;
        }
        p.clear();
        p.feed(payee, 0, 0, 0, 0);
        int d = p.pay(500, 0);
        p.sign(d);
        long[] others = {numberAt(p, on, own), numberAt(p, on, change), numberAt(p, on, stranger(payee))};
        int tried = 0;
        for (int step : new int[] {0, 1, 62, 63, 64, 65, 66, 126, 127, 128, 129}) {
            int number = 0;
            while (number < 256 && !hasStep(others, number, step)) {
                number++;
            }
            if (number == 256) {
                continue;
            }
            tried++;
            int n = payee + 1;
            while (numberAt(p, on, stranger(n)) != number) {
                n++;
            }
            p.send(d, 0, 0);
            int b = mineForStranger(p, on, n);
            due.is("numbers", p.filterByte(b, 0), 4);
            filterIs(p, b, plainFilter(others, number));
        }
        due.is("steps", tried, 11);
    }

    /** The number that an ADDRESS has, among four, in a block on this one. */
    private static long numberAt(Pair p, int on, byte[] address) {
        return Reference.filterNumber(p.y.made.get(on).header.id, address, 4);
    }

    private static long[] withOne(long[] others, long number) {
        long[] all = Arrays.copyOf(others, 4);
        all[3] = number;
        Arrays.sort(all);
        return all;
    }

    private static boolean hasStep(long[] others, long number, long step) {
        long last = 0;
        for (long one : withOne(others, number)) {
            if (one - last == step) {
                return true;
            }
            last = one;
        }
        return false;
    }

    private static byte[] plainFilter(long[] others, long number) {
        StringBuilder bits = new StringBuilder("00000100");
        long last = 0;
        for (long one : withOne(others, number)) {
            for (long i = (one - last) / 64; i > 0; i--) {
                bits.append('1');
            }
            bits.append('0');
            for (int i = 5; i >= 0; i--) {
                bits.append((one - last) % 64 >> i & 1);
            }
            last = one;
        }
        while (bits.length() % 8 != 0) {
            bits.append('0');
        }
        byte[] out = new byte[bits.length() / 8];
        for (int i = 0; i < out.length; i++) {
            out[i] = (byte) Integer.parseInt(bits.substring(8 * i, 8 * i + 8), 2);
        }
        return out;
    }

    /** How many bits numbers have in a filter. */
    private static int bitsOf(byte[] before, List<byte[]> addresses) {
        int n = addresses.size();
        long[] numbers = new long[n];
        for (int i = 0; i < n; i++) {
            numbers[i] = Reference.filterNumber(before, addresses.get(i), n);
        }
        Arrays.sort(numbers);
        int bits = 7 * n;
        long last = 0;
        for (long one : numbers) {
            bits += (int) (one - last) / 64;
            last = one;
        }
        return bits;
    }

    /** "0s behind the last": none, if the bits end with a byte; seven, if one bit is left; and all between. */
    private static void filterEnds(Due due) {
        for (int left = 0; left < 8; left++) {
            Pair p = Pair.rich(due, 12);
            byte[] before = p.y.made.get(12).header.id;
            List<byte[]> all = new ArrayList<>();
            for (int i = 0; i < 12; i++) {
                all.add(p.y.own.get(0, i).address());
            }
            all.add(p.y.own.get(1, 0).address());
            int n = 0;
            do {
                n += 4;
                while (all.size() > 13) {
                    all.remove(13);
                }
                for (int i = 0; i < 4; i++) {
                    all.add(stranger(n + i));
                }
            } while (bitsOf(before, all) % 8 != left);
            for (int i = 0; i < 3; i++) {
                p.clear();
                p.feed(n + i, 0, 0, 0, 0);
                p.signAndSend(p.pay(3500, 0));
            }
            int b = mineForStranger(p, 12, n + 3);
            due.is("numbers", p.filterByte(b, 0), 17);
            due.is("bytes, the last with " + left + " bits", p.block(b, 6), 1 + (bitsOf(before, all) + 7) / 8);
            filterIs(p, b, Reference.filter(before, all));
        }
    }
}
