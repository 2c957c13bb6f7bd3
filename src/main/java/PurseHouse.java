import java.util.Arrays;

/** A purse for coins of a chain of blocks, and the makers of that chain. */
public final class PurseHouse {
    public static final int BAD = -1, NONE = -2, FULL = -3;

    private static final int TAPE_LIMIT = 200;
    private static final int SEED_LEAST = 16;
    private static final int SEED_MOST = 64;
    private static final int HASH_BYTES = 32;
    private static final int HASH_WORDS = 8;
    private static final int ADDRESS_BYTES = 20;
    private static final int PUBLIC_BYTES = 33;
    private static final int WITNESS_BYTES = 97;
    private static final int INPUT_BYTES = 33;
    private static final int OUTPUT_BYTES = 24;
    private static final int INPUT_LIMIT = 4;
    private static final int OUTPUT_LIMIT = 3;
    private static final int VALUE_LIMIT = 1000000000;
    private static final int GAP_LIMIT = 8;
    private static final int SECONDS_LIMIT = 1000;
    private static final int AMOUNT_LIMIT = 1000000;
    private static final int RATE_LIMIT = 9;
    private static final int MASK_LIMIT = 255;
    private static final int DRAFT_LIMIT = 16;
    private static final int PARCEL_BYTES = 2048;

    private final byte[] tape = new byte[TAPE_LIMIT];
    private int tapeLength;
    private final byte[] digest = new byte[HASH_BYTES];
    private final byte[] parcel = new byte[PARCEL_BYTES];
    private final Sha sha;
    private final Signer signer;
    private final KeyRing keys;
    private final Makers makers;
    private final Purse purse;
    private final Draft[] drafts = new Draft[DRAFT_LIMIT];
    private int draftCount;
    private final int[] freeCoins = new int[Purse.COIN_LIMIT];
    private final int[] freeValues = new int[Purse.COIN_LIMIT];

    public PurseHouse() {
        Sha hasher = new Sha();
        Curve curve = new Curve();
        Modulus order = new Modulus(Modulus.ORDER, Modulus.ORDER_OVER);
        Signer witness = new Signer(hasher, curve, order);
        KeyRing ring = new KeyRing(hasher, curve, order);
        Makers all = new Makers(hasher, witness);
        all.complete(all.begin(null, Makers.NOBODY), 0);
        sha = hasher;
        signer = witness;
        keys = ring;
        makers = all;
        purse = new Purse(hasher, ring, all.blockAt(0));
    }

    // ---- the tape

    public int feed(int a, int b, int c, int d, int e) {
        if (tapeLength + ADDRESS_BYTES > TAPE_LIMIT) {
            return FULL;
        }
        storeWord(a, tape, tapeLength);
        storeWord(b, tape, tapeLength + 4);
        storeWord(c, tape, tapeLength + 8);
        storeWord(d, tape, tapeLength + 12);
        storeWord(e, tape, tapeLength + 16);
        tapeLength += ADDRESS_BYTES;
        return tapeLength;
    }

    public int cut(int n) {
        if (n < 0 || n > tapeLength) {
            return BAD;
        }
        tapeLength -= n;
        return tapeLength;
    }

    public int hash(int what, int i) {
        if (what < 0 || what > 1 || i < 0 || i >= HASH_WORDS) {
            return BAD;
        }
        if (what == 0) {
            sha.hashOf(tape, 0, tapeLength, digest);
            return wordAt(digest, 4 * i);
        }
        if (tapeLength < HASH_BYTES) {
            return BAD;
        }
        sha.beginMac(tape, 0);
        sha.put(tape, HASH_BYTES, tapeLength - HASH_BYTES);
        sha.endMac(digest, 0);
        return wordAt(digest, 4 * i);
    }

    // ---- keys

    public int seed() {
        if (tapeLength < SEED_LEAST || tapeLength > SEED_MOST) {
            return BAD;
        }
        keys.plant(tape, tapeLength);
        purse.startAnew();
        for (int d = 0; d < draftCount; d++) {
            drafts[d].state = Draft.DROPPED;
        }
        tapeLength = 0;
        return 1;
    }

    public int gap(int n) {
        if (n < 1 || n > GAP_LIMIT) {
            return BAD;
        }
        int before = keys.ahead;
        keys.ahead = n;
        purse.stale = true;
        return before;
    }

    public int key(int branch, int k, int i) {
        byte[] node = keys.nodeOf(branch, k);
        if (node == null || i < 0 || i >= PUBLIC_BYTES) {
            return BAD;
        }
        return node[KeyRing.PUBLIC + i] & 255;
    }

    public int address(int branch, int k) {
        byte[] node = keys.nodeOf(branch, k);
        if (node == null) {
            return BAD;
        }
        if (tapeLength + ADDRESS_BYTES > TAPE_LIMIT) {
            return FULL;
        }
        System.arraycopy(node, KeyRing.ADDRESS, tape, tapeLength, ADDRESS_BYTES);
        tapeLength += ADDRESS_BYTES;
        return tapeLength;
    }

    // ---- makers

    public int mine(int b, int seconds) {
        Block before = makers.blockAt(b);
        if (before == null || seconds < 0 || seconds > SECONDS_LIMIT) {
            return BAD;
        }
        if (makers.isDone()) {
            return FULL;
        }
        byte[] payee = Makers.NOBODY;
        if (tapeLength >= ADDRESS_BYTES) {
            payee = tape;
            tapeLength = 0;
        }
        Block one = makers.begin(before, payee);
        makers.takeGood(one);
        return makers.complete(one, seconds);
    }

    public int block(int b, int what) {
        Block one = makers.blockAt(b);
        if (one == null || what < 0 || what > 31) {
            return BAD;
        }
        switch (what) {
            case 0: return one.before == null ? NONE : one.before.number;
            case 1: return one.height;
            case 2: return one.bits();
            case 3: return one.time();
            case 4: return one.nonce();
            case 5: return one.count;
            case 6: return one.filterLength;
            case 7: return one.work;
            default: break;
        }
        if (what < 16) {
            return wordAt(one.id, 4 * (what - 8));
        }
        if (what < 24) {
            return wordAt(one.header, Block.ROOT + 4 * (what - 16));
        }
        return wordAt(one.header, Block.FILTER + 4 * (what - 24));
    }

    public int payment(int b, int i, int what) {
        Block one = makers.blockAt(b);
        if (one == null || i < 0 || i >= one.count || what < 0 || what > 12) {
            return BAD;
        }
        Payment payment = one.payments[i];
        if (what == 0) {
            return payment.inputs;
        }
        if (what == 1) {
            return payment.outputs;
        }
        if (what < 10) {
            return wordAt(payment.id, 4 * (what - 2));
        }
        return what - 10 < payment.outputs ? payment.valueOf(what - 10) : 0;
    }

    public int filterByte(int b, int i) {
        Block one = makers.blockAt(b);
        if (one == null || i < 0 || i >= one.filterLength) {
            return BAD;
        }
        return one.filter[i] & 255;
    }

    public int waiting() {
        return makers.queueLength;
    }

    public int forget() {
        int thrown = makers.queueLength;
        makers.queueLength = 0;
        return thrown;
    }

    // ---- the purse

    public int give(int b, int what, int place, int mask) {
        Block one = makers.blockAt(b);
        if (one == null || what < 0 || what > 2 || mask < 0 || mask > MASK_LIMIT) {
            return BAD;
        }
        int length = one.copyPart(what, parcel);
        if (mask > 0) {
            if (place < 0 || place >= length) {
                return BAD;
            }
            parcel[place] = (byte) (parcel[place] ^ mask);
        }
        if (what == 0) {
            return purse.takeHeader(parcel);
        }
        Block first = makers.firstWith(one.id);
        if (what == 1) {
            return purse.takeFilter(first, parcel, length);
        }
        return purse.takeBlock(first, parcel, length);
    }

    public int header(int h, int what) {
        if (h < 0 || h >= purse.knownCount || what < 0 || what > 13) {
            return BAD;
        }
        Block one = purse.known[h];
        switch (what) {
            case 0: return one.before == null ? NONE : one.before.number;
            case 1: return one.height;
            case 2: return one.work;
            case 3: return purse.filterFrom[h] == null ? 0 : 1;
            case 4: return purse.blockFrom[h] == null ? 0 : 1;
            case 5: break;
            default: return wordAt(one.id, 4 * (what - 6));
        }
        Block made = makers.firstWith(one.id);
        return made == null ? NONE : made.number;
    }

    public int chain(int what) {
        if (what < 0 || what > 5 || (what > 2 && !keys.planted)) {
            return BAD;
        }
        if (what > 2) {
            purse.scan();
        }
        switch (what) {
            case 0: return purse.best;
            case 1: return purse.known[purse.best].height;
            case 2: return purse.knownCount;
            case 3: return purse.stopHeight;
            case 4: return purse.missing;
            default: return purse.stopHeader;
        }
    }

    public int last(int branch) {
        if (!keys.planted || branch < 0 || branch > 1) {
            return BAD;
        }
        purse.scan();
        return keys.lastUsed[branch];
    }

    public int coin(int i, int what) {
        if (!keys.planted || what < 0 || what > 6 || i < -1 || (i == -1 && what != 0)) {
            return BAD;
        }
        purse.scan();
        if (i == -1) {
            return purse.coinCount;
        }
        if (i >= purse.coinCount) {
            return BAD;
        }
        switch (what) {
            case 0: return purse.valueOf(i);
            case 1: return purse.coinKey[i] / KeyRing.PER_BRANCH;
            case 2: return purse.coinKey[i] % KeyRing.PER_BRANCH;
            case 3: return purse.coinHeight[i];
            case 4: return purse.coinOutput[i];
            case 5: return isLocked(i) ? 1 : 0;
            default: return wordAt(purse.coinFrom[i].id, 0);
        }
    }

    public int sum(int what) {
        if (!keys.planted || what < 0 || what > 1) {
            return BAD;
        }
        purse.scan();
        int total = 0;
        for (int i = 0; i < purse.coinCount; i++) {
            if (what == 0 || !isLocked(i)) {
                total += purse.valueOf(i);
            }
        }
        return total;
    }

    // ---- drafts

    public int pay(int amount, int rate) {
        if (!keys.planted || amount < 1 || amount > AMOUNT_LIMIT || rate < 0 || rate > RATE_LIMIT
                || tapeLength < ADDRESS_BYTES) {
            return BAD;
        }
        if (draftCount >= DRAFT_LIMIT) {
            return FULL;
        }
        if (drafts[draftCount] == null) {
            drafts[draftCount] = new Draft();
        }
        purse.scan();
        Draft one = drafts[draftCount];
        int n = sortFreeCoins(rate);
        if (!one.choose(freeValues, n, amount, rate)) {
            return NONE;
        }
        writeDraft(one, amount);
        tapeLength = 0;
        draftCount++;
        return draftCount - 1;
    }

    public int draft(int d, int what) {
        Draft one = draftAt(d);
        if (one == null) {
            return BAD;
        }
        switch (what) {
            case 0: return one.inputs;
            case 1: return one.outputs;
            case 2: return one.fee;
            case 3: return one.rest;
            case 4: return one.state;
            case 5: return one.looked;
            default: return BAD;
        }
    }

    public int sign(int d) {
        Draft one = draftAt(d);
        if (one == null) {
            return BAD;
        }
        if (one.state != Draft.MADE) {
            return NONE;
        }
        for (int i = 0; i < one.inputs; i++) {
            signer.signInput(keys.nodes[one.keyOf[i]], one.id, i, one.bytes, one.witnessAt(i));
        }
        one.state = Draft.SIGNED;
        return one.inputs;
    }

    public int draftByte(int d, int i) {
        Draft one = draftAt(d);
        if (one == null || i < 0 || i >= one.length()) {
            return BAD;
        }
        return one.bytes[i] & 255;
    }

    public int send(int d, int place, int mask) {
        Draft one = draftAt(d);
        if (one == null || mask < 0 || mask > MASK_LIMIT) {
            return BAD;
        }
        if (mask > 0 && (place < 0 || place >= one.length())) {
            return BAD;
        }
        if (one.state < Draft.SIGNED) {
            return NONE;
        }
        if (makers.queueLength >= Makers.QUEUE_LIMIT) {
            return FULL;
        }
        byte[] copy = Arrays.copyOf(one.bytes, one.length());
        if (mask > 0) {
            copy[place] = (byte) (copy[place] ^ mask);
        }
        one.state = Draft.SENT;
        return makers.enqueue(copy) ? 1 : 0;
    }

    public int drop(int d) {
        Draft one = draftAt(d);
        if (one == null) {
            return BAD;
        }
        if (one.state == Draft.DROPPED) {
            return NONE;
        }
        one.state = Draft.DROPPED;
        return 1;
    }

    public int check(int d) {
        Draft one = draftAt(d);
        if (one == null || one.state < Draft.SIGNED) {
            return BAD;
        }
        for (int i = 0; i < one.inputs; i++) {
            byte[] node = keys.nodes[one.keyOf[i]];
            int at = one.witnessAt(i);
            if (!signer.opens(one.bytes, at, node, KeyRing.ADDRESS)
                    || !signer.isRight(one.bytes, at, one.id, i)) {
                return 0;
            }
        }
        return 1;
    }

    private Draft draftAt(int d) {
        return d < 0 || d >= draftCount ? null : drafts[d];
    }

    private boolean isLocked(int i) {
        for (int d = 0; d < draftCount; d++) {
            if (drafts[d].names(purse.coinFrom[i].id, purse.coinOutput[i])) {
                return true;
            }
        }
        return false;
    }

    private int sortFreeCoins(int rate) {
        int n = 0;
        for (int i = 0; i < purse.coinCount; i++) {
            int value = purse.valueOf(i);
            if (value <= Draft.INPUT_WEIGHT * rate || isLocked(i)) {
                continue;
            }
            int at = n;
            for (; at > 0 && freeValues[at - 1] < value; at--) {
                freeValues[at] = freeValues[at - 1];
                freeCoins[at] = freeCoins[at - 1];
            }
            freeValues[at] = value;
            freeCoins[at] = i;
            n++;
        }
        return n;
    }

    private void writeDraft(Draft one, int amount) {
        one.beginInputs();
        for (int i = 0; i < one.inputs; i++) {
            int c = freeCoins[one.taken[i]];
            one.putInput(i, purse.coinFrom[c].id, purse.coinOutput[c], purse.coinKey[c]);
        }
        one.putOutput(0, amount, tape, 0);
        if (one.outputs == 2) {
            int k = Math.min(keys.lastUsed[1] + 1, KeyRing.PER_BRANCH - 1);
            byte[] node = keys.nodeOf(1, k);
            if (node != null) {
                one.putOutput(1, one.rest, node, KeyRing.ADDRESS);
            }
        }
        sha.hashOf(one.bytes, 0, one.body, one.id);
        one.state = Draft.MADE;
    }

    // ---- bytes

    private static int wordAt(byte[] from, int at) {
        if (at < 0 || at > from.length - 4) {
            return 0;
        }
        return from[at] << 24 | (from[at + 1] & 255) << 16 | (from[at + 2] & 255) << 8 | from[at + 3] & 255;
    }

    private static void storeWord(int word, byte[] to, int at) {
        if (at < 0 || at > to.length - 4) {
            return;
        }
        to[at] = (byte) (word >> 24);
        to[at + 1] = (byte) (word >> 16);
        to[at + 2] = (byte) (word >> 8);
        to[at + 3] = (byte) word;
    }

    private static boolean sameBytes(byte[] a, int atA, byte[] b, int atB, int n) {
        if (atA < 0 || atB < 0 || atA > a.length - n || atB > b.length - n) {
            return false;
        }
        for (int i = 0; i < n; i++) {
            if (a[atA + i] != b[atB + i]) {
                return false;
            }
        }
        return true;
    }

    /** SHA-256 over bytes that are put one behind the other, once, twice, or as a MAC. */
    private static final class Sha {
        private static final int PIECE = 64;
        private static final int LENGTH_AT = 56;
        private static final int FOLDS = 31;
        private static final int[] START = {
            0x6a09e667, 0xbb67ae85, 0x3c6ef372, 0xa54ff53a, 0x510e527f, 0x9b05688c, 0x1f83d9ab, 0x5be0cd19
        };
        private static final int[] ROUND = {
            0x428a2f98, 0x71374491, 0xb5c0fbcf, 0xe9b5dba5, 0x3956c25b, 0x59f111f1, 0x923f82a4, 0xab1c5ed5,
            0xd807aa98, 0x12835b01, 0x243185be, 0x550c7dc3, 0x72be5d74, 0x80deb1fe, 0x9bdc06a7, 0xc19bf174,
            0xe49b69c1, 0xefbe4786, 0x0fc19dc6, 0x240ca1cc, 0x2de92c6f, 0x4a7484aa, 0x5cb0a9dc, 0x76f988da,
            0x983e5152, 0xa831c66d, 0xb00327c8, 0xbf597fc7, 0xc6e00bf3, 0xd5a79147, 0x06ca6351, 0x14292967,
            0x27b70a85, 0x2e1b2138, 0x4d2c6dfc, 0x53380d13, 0x650a7354, 0x766a0abb, 0x81c2c92e, 0x92722c85,
            0xa2bfe8a1, 0xa81a664b, 0xc24b8b70, 0xc76c51a3, 0xd192e819, 0xd6990624, 0xf40e3585, 0x106aa070,
            0x19a4c116, 0x1e376c08, 0x2748774c, 0x34b0bcb5, 0x391c0cb3, 0x4ed8aa4a, 0x5b9cca4f, 0x682e6ff3,
            0x748f82ee, 0x78a5636f, 0x84c87814, 0x8cc70208, 0x90befffa, 0xa4506ceb, 0xbef9a3f7, 0xc67178f2
        };

        private final int[] state = new int[HASH_WORDS];
        private final int[] words = new int[PIECE];
        private final byte[] piece = new byte[PIECE];
        private final byte[] inner = new byte[HASH_BYTES];
        private final byte[] macKey = new byte[HASH_BYTES];
        private final int[] innerState = new int[HASH_WORDS];
        private final int[] outerState = new int[HASH_WORDS];
        private boolean hasKey;
        private final int[] keptState = new int[HASH_WORDS];
        private final byte[] keptPiece = new byte[PIECE];
        private int keptLength;
        private int filled;
        private int length;

        void begin() {
            System.arraycopy(START, 0, state, 0, HASH_WORDS);
            filled = 0;
            length = 0;
        }

        void put(byte[] from, int at, int n) {
            if (at < 0 || n < 0 || at > from.length - n) {
                return;
            }
            for (int i = at; i < at + n; i++) {
                piece[filled] = from[i];
                filled++;
                if (filled == PIECE) {
                    compress();
                }
            }
            length += n;
        }

        void putByte(int value) {
            piece[filled] = (byte) value;
            filled++;
            length++;
            if (filled == PIECE) {
                compress();
            }
        }

        void putWord(int word) {
            putByte(word >> 24);
            putByte(word >> 16);
            putByte(word >> 8);
            putByte(word);
        }

        void end(byte[] to, int at) {
            piece[filled] = (byte) 128;
            filled++;
            if (filled > LENGTH_AT) {
                Arrays.fill(piece, filled, PIECE, (byte) 0);
                compress();
            }
            Arrays.fill(piece, filled, PIECE, (byte) 0);
            storeWord(8 * length, piece, LENGTH_AT + 4);
            compress();
            for (int i = 0; i < HASH_WORDS; i++) {
                storeWord(state[i], to, at + 4 * i);
            }
        }

        void endTwice(byte[] to, int at) {
            end(inner, 0);
            begin();
            put(inner, 0, HASH_BYTES);
            end(to, at);
        }

        /** Remembers what was put so far, so that several ends can be tried. */
        void keep() {
            System.arraycopy(state, 0, keptState, 0, HASH_WORDS);
            System.arraycopy(piece, 0, keptPiece, 0, PIECE);
            keptLength = length;
        }

        void goBack() {
            System.arraycopy(keptState, 0, state, 0, HASH_WORDS);
            System.arraycopy(keptPiece, 0, piece, 0, PIECE);
            length = keptLength;
            filled = length % PIECE;
        }

        void hashOf(byte[] from, int at, int n, byte[] to) {
            begin();
            put(from, at, n);
            endTwice(to, 0);
        }

        /** Many MACs have one key, one after the other: what the key alone does is done once. */
        void beginMac(byte[] key, int at) {
            if (!hasKey || !sameBytes(macKey, 0, key, at, HASH_BYTES)) {
                for (int i = 0; i < HASH_BYTES; i++) {
                    macKey[i] = at < 0 || at >= key.length - i ? 0 : key[at + i];
                }
                padKey(0x36, innerState);
                padKey(0x5c, outerState);
                hasKey = true;
            }
            goOn(innerState);
        }

        private void padKey(int pad, int[] to) {
            for (int i = 0; i < PIECE; i++) {
                piece[i] = (byte) (i < HASH_BYTES ? macKey[i] ^ pad : pad);
            }
            System.arraycopy(START, 0, state, 0, HASH_WORDS);
            compress();
            System.arraycopy(state, 0, to, 0, HASH_WORDS);
        }

        /** Goes on behind a first piece. */
        private void goOn(int[] from) {
            System.arraycopy(from, 0, state, 0, HASH_WORDS);
            filled = 0;
            length = PIECE;
        }

        void endMac(byte[] to, int at) {
            end(inner, 0);
            goOn(outerState);
            put(inner, 0, HASH_BYTES);
            end(to, at);
        }

        /** What an address is turned into for the filter of a block behind the one with this ID. */
        long markOf(byte[] before, byte[] from, int at) {
            beginMac(before, 0);
            put(from, at, ADDRESS_BYTES);
            endMac(inner, 0);
            return wordAt(inner, 0) & 0xffffffffL;
        }

        /** Leaves the root of n IDs, which stand in a row, in the place of the first. */
        void foldRoot(byte[] ids, int n) {
            int left = n;
            for (int round = 0; round < FOLDS && left > 1; round++) {
                int pairs = (left + 1) / 2;
                for (int i = 0; i < pairs; i++) {
                    int other = Math.min(2 * i + 1, left - 1);
                    begin();
                    put(ids, 2 * i * HASH_BYTES, HASH_BYTES);
                    put(ids, other * HASH_BYTES, HASH_BYTES);
                    endTwice(ids, i * HASH_BYTES);
                }
                left = pairs;
            }
        }

        private void compress() {
            filled = 0;
            byte[] p = piece;
            int[] w = words;
            for (int i = 0; i < 16; i++) {
                int at = 4 * i;
                w[i] = p[at] << 24 | (p[at + 1] & 255) << 16 | (p[at + 2] & 255) << 8 | p[at + 3] & 255;
            }
            for (int i = 16; i < PIECE; i++) {
                int x = w[i - 15];
                int y = w[i - 2];
                w[i] = w[i - 16] + w[i - 7]
                        + ((x >>> 7 | x << 25) ^ (x >>> 18 | x << 14) ^ x >>> 3)
                        + ((y >>> 17 | y << 15) ^ (y >>> 19 | y << 13) ^ y >>> 10);
            }
            int a = state[0];
            int b = state[1];
            int c = state[2];
            int d = state[3];
            int e = state[4];
            int f = state[5];
            int g = state[6];
            int h = state[7];
            for (int i = 0; i < PIECE; i++) {
                int t = h + ((e >>> 6 | e << 26) ^ (e >>> 11 | e << 21) ^ (e >>> 25 | e << 7))
                        + (g ^ e & (f ^ g)) + ROUND[i] + w[i];
                int u = ((a >>> 2 | a << 30) ^ (a >>> 13 | a << 19) ^ (a >>> 22 | a << 10))
                        + (a & b | c & (a | b));
                h = g;
                g = f;
                f = e;
                e = d + t;
                d = c;
                c = b;
                b = a;
                a = t + u;
            }
            state[0] += a;
            state[1] += b;
            state[2] += c;
            state[3] += d;
            state[4] += e;
            state[5] += f;
            state[6] += g;
            state[7] += h;
        }
    }

    /**
     * Numbers modulo a prime just below 2^256, in nine limbs of 29 bits, the lowest first. The highest limb may
     * stand a little outside (-1 .. 2^29), so that sums and products need no comparison; clear() settles it.
     */
    private static final class Modulus {
        private static final int LIMBS = 9;
        private static final int BITS = 29;
        private static final long MASK = 536870911L;
        private static final int TOP = 8;
        private static final int OVERHANG = 24;
        private static final int WIDE_TOP = 17;
        private static final int ROUNDS = 3;

        static final long[] PRIME = {
            536869935L, 536870903L, 536870911L, 536870911L, 536870911L, 536870911L, 536870911L, 536870911L, 16777215L
        };
        static final long[] PRIME_OVER = {31264L, 256L};
        static final int[] PRIME_INVERSE = {-1, -1, -1, -1, -1, -1, 0xfffffffe, 0xfffffc2d};
        static final int[] PRIME_ROOT = {0x3fffffff, -1, -1, -1, -1, -1, -1, 0xbfffff0c};
        static final long[] ORDER = {
            271991105L, 512947302L, 304615151L, 498715998L, 536865706L, 536870911L, 536870911L, 536870911L, 16777215L
        };
        static final long[] ORDER_OVER = {423090144L, 228684591L, 452862465L, 147215405L, 166562L};
        static final int[] ORDER_INVERSE = {
            -1, -1, -1, 0xfffffffe, 0xbaaedce6, 0xaf48a03b, 0xbfd25e8c, 0xd036413f
        };

        private final long[] whole;
        private final long[] over;
        private final long[] wide = new long[WIDE_TOP + 1];
        private final long[] settled = new long[LIMBS];
        private final long[][] powers = new long[16][LIMBS];

        /** The limbs of the prime, and of what it leaves of 2^261. */
        Modulus(long[] whole, long[] over) {
            this.whole = whole;
            this.over = over;
        }

        void multiply(long[] to, long[] a, long[] b) {
            long a0 = a[0], a1 = a[1], a2 = a[2], a3 = a[3], a4 = a[4], a5 = a[5], a6 = a[6], a7 = a[7], a8 = a[8];
            long b0 = b[0], b1 = b[1], b2 = b[2], b3 = b[3], b4 = b[4], b5 = b[5], b6 = b[6], b7 = b[7], b8 = b[8];
            long[] w = wide;
            long t = a0 * b0;
            w[0] = t & MASK;
            t = (t >> BITS) + a0 * b1 + a1 * b0;
            w[1] = t & MASK;
            t = (t >> BITS) + a0 * b2 + a1 * b1 + a2 * b0;
            w[2] = t & MASK;
            t = (t >> BITS) + a0 * b3 + a1 * b2 + a2 * b1 + a3 * b0;
            w[3] = t & MASK;
            t = (t >> BITS) + a0 * b4 + a1 * b3 + a2 * b2 + a3 * b1 + a4 * b0;
            w[4] = t & MASK;
            t = (t >> BITS) + a0 * b5 + a1 * b4 + a2 * b3 + a3 * b2 + a4 * b1 + a5 * b0;
            w[5] = t & MASK;
            t = (t >> BITS) + a0 * b6 + a1 * b5 + a2 * b4 + a3 * b3 + a4 * b2 + a5 * b1 + a6 * b0;
            w[6] = t & MASK;
            t = (t >> BITS) + a0 * b7 + a1 * b6 + a2 * b5 + a3 * b4 + a4 * b3 + a5 * b2 + a6 * b1 + a7 * b0;
            w[7] = t & MASK;
            t = (t >> BITS) + a0 * b8 + a1 * b7 + a2 * b6 + a3 * b5 + a4 * b4 + a5 * b3 + a6 * b2 + a7 * b1 + a8 * b0;
            w[8] = t & MASK;
            t = (t >> BITS) + a1 * b8 + a2 * b7 + a3 * b6 + a4 * b5 + a5 * b4 + a6 * b3 + a7 * b2 + a8 * b1;
            w[9] = t & MASK;
            t = (t >> BITS) + a2 * b8 + a3 * b7 + a4 * b6 + a5 * b5 + a6 * b4 + a7 * b3 + a8 * b2;
            w[10] = t & MASK;
            t = (t >> BITS) + a3 * b8 + a4 * b7 + a5 * b6 + a6 * b5 + a7 * b4 + a8 * b3;
            w[11] = t & MASK;
            t = (t >> BITS) + a4 * b8 + a5 * b7 + a6 * b6 + a7 * b5 + a8 * b4;
            w[12] = t & MASK;
            t = (t >> BITS) + a5 * b8 + a6 * b7 + a7 * b6 + a8 * b5;
            w[13] = t & MASK;
            t = (t >> BITS) + a6 * b8 + a7 * b7 + a8 * b6;
            w[14] = t & MASK;
            t = (t >> BITS) + a7 * b8 + a8 * b7;
            w[15] = t & MASK;
            t = (t >> BITS) + a8 * b8;
            w[16] = t & MASK;
            w[17] = t >> BITS;
            if (over.length == 2) {
                foldShort(to);
            } else {
                foldLong(to);
            }
        }

        /** What stands above 2^261 comes down, for a prime that leaves little of that. */
        private void foldShort(long[] to) {
            long[] w = wide;
            long low = over[0];
            long high = over[1];
            long below = 0;
            long carry = 0;
            for (int i = 0; i < LIMBS; i++) {
                long h = w[i + LIMBS];
                carry += w[i] + h * low + below * high;
                to[i] = carry & MASK;
                carry >>= BITS;
                below = h;
            }
            long h = carry + below * high;
            carry = to[0] + h * low;
            to[0] = carry & MASK;
            carry = (carry >> BITS) + to[1] + h * high;
            to[1] = carry & MASK;
            carry >>= BITS;
            for (int i = 2; i < TOP && carry != 0; i++) {
                carry += to[i];
                to[i] = carry & MASK;
                carry >>= BITS;
            }
            to[TOP] += carry;
        }

        /** The same for a prime that leaves more: it takes some rounds. */
        private void foldLong(long[] to) {
            int top = WIDE_TOP;
            for (int round = 0; round < ROUNDS && top > TOP; round++) {
                for (int k = LIMBS; k <= top; k++) {
                    long h = wide[k];
                    wide[k] = 0;
                    for (int j = 0; j < over.length; j++) {
                        wide[k - LIMBS + j] += h * over[j];
                    }
                }
                int next = top - LIMBS + over.length;
                top = next > TOP ? next : TOP;
                long carry = 0;
                for (int i = 0; i < top; i++) {
                    carry += wide[i];
                    wide[i] = carry & MASK;
                    carry >>= BITS;
                }
                wide[top] += carry;
            }
            for (int i = 0; i < LIMBS; i++) {
                to[i] = wide[i];
            }
        }

        /** Leaves a and a few times b in to. */
        void addTimes(long[] to, long[] a, long[] b, long times) {
            long carry = 0;
            for (int i = 0; i < TOP; i++) {
                carry += a[i] + times * b[i];
                to[i] = carry & MASK;
                carry >>= BITS;
            }
            carry += a[TOP] + times * b[TOP];
            long h = carry >> BITS;
            to[TOP] = carry & MASK;
            carry = 0;
            for (int i = 0; i < TOP && (i < over.length || carry != 0); i++) {
                carry += i < over.length ? to[i] + h * over[i] : to[i];
                to[i] = carry & MASK;
                carry >>= BITS;
            }
            to[TOP] += carry;
        }

        /** Leaves a to the power of the words in to, four bits at a time. */
        void power(long[] to, long[] a, int[] words) {
            setSmall(powers[0], 1);
            for (int i = 1; i < 16; i++) {
                multiply(powers[i], powers[i - 1], a);
            }
            setSmall(to, 1);
            for (int i = 0; i < 8 * words.length; i++) {
                for (int j = 0; i > 0 && j < 4; j++) {
                    multiply(to, to, to);
                }
                int digit = words[i / 8] >>> 28 - 4 * (i % 8) & 15;
                if (digit > 0) {
                    multiply(to, to, powers[digit]);
                }
            }
        }

        void setSmall(long[] to, int value) {
            Arrays.fill(to, 0L);
            to[0] = value;
        }

        /** Once the overhang is gone, what is 0 can only stand there as 0 or as the modulus itself. */
        boolean isZero(long[] a) {
            long times = a[TOP] >> OVERHANG;
            long carry = 0;
            long some = 0;
            long other = 0;
            for (int i = 0; i < LIMBS; i++) {
                carry += a[i] - times * whole[i];
                long limb = i < TOP ? carry & MASK : carry;
                some |= limb;
                other |= limb ^ whole[i];
                if (some != 0 && other != 0) {
                    return false;
                }
                carry >>= BITS;
            }
            return true;
        }

        boolean isOdd(long[] a) {
            clear(a);
            return (settled[0] & 1) == 1;
        }

        boolean isAboveHalf(long[] a) {
            clear(a);
            long carry = 0;
            for (int i = 0; i < LIMBS; i++) {
                carry += 2 * settled[i];
                settled[i] = carry & MASK;
                carry >>= BITS;
            }
            return !isBelow(settled);
        }

        /** Tells whether a, whose limbs stand within their 29 bits, is less than the modulus. */
        boolean isBelow(long[] a) {
            for (int i = TOP; i >= 0; i--) {
                if (a[i] != whole[i]) {
                    return a[i] < whole[i];
                }
            }
            return false;
        }

        void read(long[] to, byte[] from, int at) {
            Arrays.fill(to, 0L);
            if (at < 0 || at > from.length - HASH_BYTES) {
                return;
            }
            long held = 0;
            int bits = 0;
            int limb = 0;
            for (int i = HASH_BYTES - 1; i >= 0; i--) {
                held |= (from[at + i] & 255L) << bits;
                bits += 8;
                if (bits >= BITS && limb < TOP) {
                    to[limb] = held & MASK;
                    limb++;
                    held >>= BITS;
                    bits -= BITS;
                }
            }
            to[TOP] = held;
        }

        void write(long[] a, byte[] to, int at) {
            if (at < 0 || at > to.length - HASH_BYTES) {
                return;
            }
            clear(a);
            long held = 0;
            int bits = 0;
            int limb = 0;
            for (int i = HASH_BYTES - 1; i >= 0; i--) {
                if (bits < 8 && limb < LIMBS) {
                    held |= settled[limb] << bits;
                    limb++;
                    bits += BITS;
                }
                to[at + i] = (byte) held;
                held >>= 8;
                bits -= 8;
            }
        }

        private void clear(long[] a) {
            subtractWhole(a, a[TOP] >> OVERHANG);
            for (int round = 0; round < 2 && !isBelow(settled); round++) {
                subtractWhole(settled, 1);
            }
        }

        private void subtractWhole(long[] a, long times) {
            long carry = 0;
            for (int i = 0; i < TOP; i++) {
                carry += a[i] - times * whole[i];
                settled[i] = carry & MASK;
                carry >>= BITS;
            }
            settled[TOP] = carry + a[TOP] - times * whole[TOP];
        }
    }

    /** A point of the curve: x / z^2 and y / z^3; plain while z is 1. */
    private static final class Point {
        private final long[] x = new long[Modulus.LIMBS];
        private final long[] y = new long[Modulus.LIMBS];
        private final long[] z = new long[Modulus.LIMBS];
        private boolean nothing = true;
        private boolean plain;

        void copyFrom(Point other) {
            System.arraycopy(other.x, 0, x, 0, Modulus.LIMBS);
            System.arraycopy(other.y, 0, y, 0, Modulus.LIMBS);
            System.arraycopy(other.z, 0, z, 0, Modulus.LIMBS);
            nothing = other.nothing;
            plain = other.plain;
        }

        void makePlain() {
            Arrays.fill(z, 0L);
            z[0] = 1;
            plain = true;
            nothing = false;
        }
    }

    /** Sums of points, and the way from points to bytes and back. */
    private static final class Curve {
        private static final int DIGITS = 64;
        private static final long[] BASE_X = {
            385357720L, 261360344L, 327824982L, 402241115L, 279998505L, 290121539L, 246503041L, 266288023L, 7978598L
        };
        private static final long[] BASE_Y = {
            454087864L, 37651583L, 22349415L, 258511181L, 277516241L, 503187208L, 295007891L, 249877624L, 4733658L
        };

        private final Modulus field = new Modulus(Modulus.PRIME, Modulus.PRIME_OVER);
        private final long[][] rows = new long[8][Modulus.LIMBS];
        private final long[] seven = new long[Modulus.LIMBS];
        private final Point[] table = new Point[DIGITS];
        private final Point[] multiples = new Point[16];
        private final Point running = new Point();
        private boolean prepared;

        Curve() {
            for (int j = 0; j < DIGITS; j++) {
                table[j] = new Point();
            }
            for (int j = 0; j < multiples.length; j++) {
                multiples[j] = new Point();
            }
            seven[0] = 7;
        }

        /** Makes the points 16^j G once: they are dear, and of no use before there is a seed. */
        void prepare() {
            if (prepared) {
                return;
            }
            prepared = true;
            System.arraycopy(BASE_X, 0, table[0].x, 0, Modulus.LIMBS);
            System.arraycopy(BASE_Y, 0, table[0].y, 0, Modulus.LIMBS);
            table[0].makePlain();
            for (int j = 1; j < DIGITS; j++) {
                twice(table[j], table[j - 1]);
                for (int i = 1; i < 4; i++) {
                    twice(table[j], table[j]);
                }
            }
            flattenTable();
        }

        /** One inverse serves all points of the table. */
        private void flattenTable() {
            long[][] products = new long[DIGITS][Modulus.LIMBS];
            System.arraycopy(table[0].z, 0, products[0], 0, Modulus.LIMBS);
            for (int j = 1; j < DIGITS; j++) {
                field.multiply(products[j], products[j - 1], table[j].z);
            }
            long[] rest = rows[2];
            long[] one = rows[3];
            field.power(rest, products[DIGITS - 1], Modulus.PRIME_INVERSE);
            for (int j = DIGITS - 1; j > 0; j--) {
                field.multiply(one, rest, products[j - 1]);
                field.multiply(rest, rest, table[j].z);
                scale(table[j], one);
            }
        }

        private void scale(Point p, long[] inverse) {
            long[] square = rows[0];
            field.multiply(square, inverse, inverse);
            field.multiply(p.x, p.x, square);
            field.multiply(square, square, inverse);
            field.multiply(p.y, p.y, square);
            p.makePlain();
        }

        void settle(Point p) {
            if (p.nothing || p.plain) {
                return;
            }
            field.power(rows[1], p.z, Modulus.PRIME_INVERSE);
            scale(p, rows[1]);
        }

        void twice(Point to, Point p) {
            if (p.nothing) {
                to.nothing = true;
                return;
            }
            long[] slope = rows[0];
            long[] square = rows[1];
            long[] product = rows[2];
            long[] t = rows[3];
            field.multiply(t, p.x, p.x);
            field.addTimes(slope, t, t, -4);
            field.multiply(square, p.y, p.y);
            field.multiply(product, p.x, square);
            field.multiply(to.z, p.y, p.z);
            field.addTimes(to.z, to.z, to.z, 1);
            field.multiply(t, slope, slope);
            field.addTimes(to.x, t, product, -8);
            field.addTimes(t, to.x, product, -4);
            field.multiply(t, slope, t);
            field.multiply(square, square, square);
            field.addTimes(to.y, t, square, -8);
            to.nothing = false;
            to.plain = false;
        }

        /** Answers false, and does nothing, if both are the same point: the caller takes it twice then. */
        boolean add(Point to, Point p, Point q) {
            if (p.nothing || q.nothing) {
                to.copyFrom(p.nothing ? q : p);
                return true;
            }
            long[] square = rows[4];
            long[] cube = rows[5];
            long[] x1 = p.x;
            long[] y1 = p.y;
            if (!q.plain) {
                x1 = rows[0];
                y1 = rows[1];
                field.multiply(square, q.z, q.z);
                field.multiply(cube, square, q.z);
                field.multiply(x1, p.x, square);
                field.multiply(y1, p.y, cube);
            }
            long[] x2 = q.x;
            long[] y2 = q.y;
            if (!p.plain) {
                x2 = rows[2];
                y2 = rows[3];
                field.multiply(square, p.z, p.z);
                field.multiply(cube, square, p.z);
                field.multiply(x2, q.x, square);
                field.multiply(y2, q.y, cube);
            }
            long[] run = rows[6];
            long[] rise = rows[7];
            field.addTimes(run, x2, x1, -1);
            field.addTimes(rise, y2, y1, -1);
            if (field.isZero(run)) {
                to.nothing = !field.isZero(rise);
                return to.nothing;
            }
            field.multiply(square, run, run);
            field.multiply(cube, run, square);
            field.multiply(square, x1, square);
            field.multiply(rows[1], y1, cube);
            if (!q.plain) {
                field.multiply(run, run, q.z);
            }
            field.multiply(to.z, p.z, run);
            field.multiply(rows[2], rise, rise);
            field.addTimes(rows[2], rows[2], cube, -1);
            field.addTimes(to.x, rows[2], square, -2);
            field.addTimes(square, square, to.x, -1);
            field.multiply(square, rise, square);
            field.addTimes(to.y, square, rows[1], -1);
            to.nothing = false;
            to.plain = false;
            return true;
        }

        /** Adds up, from digit 15 down, all points of the table whose digit is at least that. */
        void timesBase(Point to, byte[] scalar) {
            to.nothing = true;
            running.nothing = true;
            for (int digit = 15; digit > 0; digit--) {
                for (int j = 0; j < DIGITS; j++) {
                    if (digitOf(scalar, j) == digit && !add(running, running, table[j])) {
                        twice(running, running);
                    }
                }
                if (!add(to, to, running)) {
                    twice(to, to);
                }
            }
        }

        void times(Point to, Point p, byte[] scalar) {
            multiples[0].nothing = true;
            for (int i = 1; i < multiples.length; i++) {
                if (!add(multiples[i], multiples[i - 1], p)) {
                    twice(multiples[i], p);
                }
            }
            to.nothing = true;
            for (int j = DIGITS - 1; j >= 0; j--) {
                for (int i = 0; i < 4; i++) {
                    twice(to, to);
                }
                int digit = digitOf(scalar, j);
                if (digit > 0 && !add(to, to, multiples[digit])) {
                    twice(to, to);
                }
            }
        }

        private static int digitOf(byte[] scalar, int j) {
            int at = HASH_BYTES - 1 - j / 2;
            if (at < 0 || at >= scalar.length) {
                return 0;
            }
            return (j % 2 == 0 ? scalar[at] : scalar[at] >> 4) & 15;
        }

        void writeX(Point p, byte[] to, int at) {
            field.write(p.x, to, at);
        }

        void writePublic(Point p, byte[] to, int at) {
            if (at < 0 || at >= to.length) {
                return;
            }
            to[at] = (byte) (field.isOdd(p.y) ? 3 : 2);
            field.write(p.x, to, at + 1);
        }

        /** Answers false if the bytes are no public key. */
        boolean readPublic(Point to, byte[] from, int at) {
            if (at < 0 || at > from.length - PUBLIC_BYTES || from[at] < 2 || from[at] > 3) {
                return false;
            }
            field.read(to.x, from, at + 1);
            if (!field.isBelow(to.x)) {
                return false;
            }
            long[] square = rows[0];
            long[] t = rows[1];
            field.multiply(square, to.x, to.x);
            field.multiply(square, square, to.x);
            field.addTimes(square, square, seven, 1);
            field.power(to.y, square, Modulus.PRIME_ROOT);
            field.multiply(t, to.y, to.y);
            field.addTimes(t, t, square, -1);
            if (!field.isZero(t)) {
                return false;
            }
            if (field.isOdd(to.y) != (from[at] == 3)) {
                field.addTimes(to.y, to.y, to.y, -2);
            }
            to.makePlain();
            return true;
        }
    }

    /** Makes and looks at witnesses. */
    private static final class Signer {
        private static final int TRIES = 256;
        private static final int R_AT = 33;
        private static final int S_AT = 65;

        private final Sha sha;
        private final Curve curve;
        private final Modulus order;
        private final byte[] message = new byte[HASH_BYTES];
        private final byte[] scalar = new byte[HASH_BYTES];
        private final Point spot = new Point();
        private final Point other = new Point();
        private final long[] r = new long[Modulus.LIMBS];
        private final long[] s = new long[Modulus.LIMBS];
        private final long[] z = new long[Modulus.LIMBS];
        private final long[] t = new long[Modulus.LIMBS];

        Signer(Sha sha, Curve curve, Modulus order) {
            this.sha = sha;
            this.curve = curve;
            this.order = order;
        }

        void signInput(byte[] node, byte[] id, int input, byte[] to, int at) {
            if (at < 0 || at > to.length - WITNESS_BYTES) {
                return;
            }
            readMessage(id, input);
            System.arraycopy(node, KeyRing.PUBLIC, to, at, PUBLIC_BYTES);
            for (int c = 0; c < TRIES; c++) {
                if (!tryNonce(node, c)) {
                    continue;
                }
                if (order.isAboveHalf(s)) {
                    order.addTimes(s, s, s, -2);
                }
                order.write(r, to, at + R_AT);
                order.write(s, to, at + S_AT);
                return;
            }
        }

        private boolean tryNonce(byte[] node, int c) {
            sha.beginMac(node, KeyRing.SECRET);
            sha.put(message, 0, HASH_BYTES);
            sha.putByte(c);
            sha.endMac(scalar, 0);
            order.read(t, scalar, 0);
            if (order.isZero(t)) {
                return false;
            }
            order.write(t, scalar, 0);
            curve.timesBase(spot, scalar);
            curve.settle(spot);
            curve.writeX(spot, scalar, 0);
            order.read(r, scalar, 0);
            order.power(t, t, Modulus.ORDER_INVERSE);
            order.read(s, node, KeyRing.SECRET);
            order.multiply(s, s, r);
            order.addTimes(s, s, z, 1);
            order.multiply(s, s, t);
            return !order.isZero(r) && !order.isZero(s);
        }

        private void readMessage(byte[] id, int input) {
            sha.begin();
            sha.put(id, 0, HASH_BYTES);
            sha.putByte(input);
            sha.endTwice(message, 0);
            order.read(z, message, 0);
        }

        /** Tells whether the public key of a witness has this address. */
        boolean opens(byte[] witness, int at, byte[] node, int addressAt) {
            sha.hashOf(witness, at, PUBLIC_BYTES, message);
            return sameBytes(message, 0, node, addressAt, ADDRESS_BYTES);
        }

        /** Tells whether a witness is right, but for the address of its public key. */
        boolean isRight(byte[] witness, int at, byte[] id, int input) {
            if (!curve.readPublic(other, witness, at)) {
                return false;
            }
            order.read(r, witness, at + R_AT);
            order.read(s, witness, at + S_AT);
            if (!order.isBelow(r) || order.isZero(r) || !order.isBelow(s) || order.isZero(s)
                    || order.isAboveHalf(s)) {
                return false;
            }
            readMessage(id, input);
            order.power(t, s, Modulus.ORDER_INVERSE);
            order.multiply(z, z, t);
            order.write(z, scalar, 0);
            curve.timesBase(spot, scalar);
            order.multiply(t, r, t);
            order.write(t, scalar, 0);
            curve.times(other, other, scalar);
            if (!curve.add(spot, spot, other)) {
                curve.twice(spot, spot);
            }
            if (spot.nothing) {
                return false;
            }
            curve.settle(spot);
            curve.writeX(spot, scalar, 0);
            order.read(t, scalar, 0);
            order.addTimes(t, t, r, -1);
            return order.isZero(t);
        }
    }

    /** The keys of the seed, made when they are first asked for, and which of them are watched. */
    private static final class KeyRing {
        static final int SECRET = 0;
        static final int CODE = 32;
        static final int PUBLIC = 64;
        static final int ADDRESS = 97;
        static final int PER_BRANCH = 32;
        static final int KEY_COUNT = 64;
        private static final int NODE_BYTES = 117;
        private static final int BRANCH_AT = KEY_COUNT;
        private static final int ACCOUNT_AT = KEY_COUNT + 2;
        private static final int MASTER_AT = KEY_COUNT + 3;
        private static final int ACCOUNT_INDEX = 0x80000000;

        private final Sha sha;
        private final Curve curve;
        private final Modulus order;
        private final byte[][] nodes = new byte[KEY_COUNT + 4][NODE_BYTES];
        private final byte[] code = new byte[HASH_BYTES];
        private final Point spot = new Point();
        private final long[] own = new long[Modulus.LIMBS];
        private final long[] added = new long[Modulus.LIMBS];
        private final int[] lastUsed = {-1, -1};
        private final int[] watched = new int[2];
        private int ahead = 3;
        private boolean planted;

        KeyRing(Sha sha, Curve curve, Modulus order) {
            this.sha = sha;
            this.curve = curve;
            this.order = order;
        }

        void plant(byte[] seed, int n) {
            curve.prepare();
            for (int i = 0; i < nodes.length; i++) {
                nodes[i][PUBLIC] = 0;
            }
            byte[] master = nodes[MASTER_AT];
            Arrays.fill(code, (byte) 0);
            Arrays.fill(own, 0L);
            sha.beginMac(code, 0);
            sha.put(seed, 0, n);
            sha.putByte(0);
            sha.endMac(master, SECRET);
            order.read(added, master, SECRET);
            writeSecret(master);
            sha.beginMac(code, 0);
            sha.put(seed, 0, n);
            sha.putByte(1);
            sha.endMac(master, CODE);
            derive(master, ACCOUNT_INDEX, nodes[ACCOUNT_AT]);
            derive(nodes[ACCOUNT_AT], 0, nodes[BRANCH_AT]);
            derive(nodes[ACCOUNT_AT], 1, nodes[BRANCH_AT + 1]);
            planted = true;
        }

        private void writeSecret(byte[] node) {
            order.addTimes(own, own, added, 1);
            if (order.isZero(own)) {
                order.setSmall(own, 1);
            }
            order.write(own, node, SECRET);
        }

        private void derive(byte[] parent, int index, byte[] node) {
            if (node[PUBLIC] != 0) {
                return;
            }
            beginChild(parent, index);
            sha.putByte(0);
            sha.endMac(code, 0);
            order.read(own, parent, SECRET);
            order.read(added, code, 0);
            writeSecret(node);
            beginChild(parent, index);
            sha.putByte(1);
            sha.endMac(node, CODE);
            System.arraycopy(node, SECRET, code, 0, HASH_BYTES);
            curve.timesBase(spot, code);
            curve.settle(spot);
            curve.writePublic(spot, node, PUBLIC);
            sha.hashOf(node, PUBLIC, PUBLIC_BYTES, code);
            System.arraycopy(code, 0, node, ADDRESS, ADDRESS_BYTES);
        }

        private void beginChild(byte[] parent, int index) {
            sha.beginMac(parent, CODE);
            if (index < 0) {
                sha.putByte(0);
                sha.put(parent, SECRET, HASH_BYTES);
            } else {
                sha.put(parent, PUBLIC, PUBLIC_BYTES);
            }
            sha.putWord(index);
        }

        /** The key's bytes, or null without a seed or such a key. */
        byte[] nodeOf(int branch, int k) {
            if (!planted || branch < 0 || branch > 1 || k < 0 || k >= PER_BRANCH) {
                return null;
            }
            byte[] node = nodes[PER_BRANCH * branch + k];
            derive(nodes[BRANCH_AT + branch], k, node);
            return node;
        }

        void unuse() {
            Arrays.fill(lastUsed, -1);
            Arrays.fill(watched, 0);
        }

        /** Watches what is to be watched by now, and tells whether that is more than before. */
        boolean watch() {
            boolean more = false;
            for (int branch = 0; branch < 2; branch++) {
                int end = Math.min(lastUsed[branch] + ahead + 1, PER_BRANCH);
                for (int k = watched[branch]; k < end; k++) {
                    derive(nodes[BRANCH_AT + branch], k, nodes[PER_BRANCH * branch + k]);
                    more = true;
                }
                watched[branch] = Math.max(end, watched[branch]);
            }
            return more;
        }

        /** The number of the watched key with this address, -1 without. */
        int findWatched(byte[] from, int at) {
            for (int i = 0; i < KEY_COUNT; i++) {
                if (isWatched(i) && sameBytes(nodes[i], ADDRESS, from, at, ADDRESS_BYTES)) {
                    return i;
                }
            }
            return -1;
        }

        boolean isWatched(int i) {
            return i % PER_BRANCH < watched[i < PER_BRANCH ? 0 : 1];
        }

        void use(int i) {
            int branch = i < PER_BRANCH ? 0 : 1;
            lastUsed[branch] = Math.max(lastUsed[branch], i % PER_BRANCH);
        }
    }

    /** A payment, or a mint, with its witnesses. */
    private static final class Payment {
        static final int MINT_BYTES = 28;

        private final byte[] bytes;
        private final int inputs;
        private final int outputs;
        private final int body;
        private final byte[] id;
        /** Of each witness: 0 while nobody looked, 1 if it is right, 2 if not: a look is dear. */
        private final int[] proof = new int[INPUT_LIMIT];

        private Payment(byte[] bytes, int body, byte[] id) {
            this.bytes = bytes;
            this.body = body;
            this.id = id;
            inputs = bytes[0];
            outputs = (body - headBytes(inputs)) / OUTPUT_BYTES;
        }

        /** A payment of bytes that can be read, the first ones of which are its body. */
        static Payment of(byte[] bytes, int body, Sha sha) {
            byte[] id = new byte[HASH_BYTES];
            sha.hashOf(bytes, 0, body, id);
            return new Payment(bytes, body, id);
        }

        private static int headBytes(int inputs) {
            return inputs == 0 ? 4 : 2 + INPUT_BYTES * inputs;
        }

        /** The length, without witnesses, of what stands in a row from at to end; -1 if it can't be read. */
        static int bodyBytes(byte[] from, int at, int end) {
            if (at < 0 || at >= end || end > from.length) {
                return -1;
            }
            int inputs = from[at];
            if (inputs < 0 || inputs > INPUT_LIMIT) {
                return -1;
            }
            int head = headBytes(inputs);
            if (head > end - at) {
                return -1;
            }
            int outputs = from[at + head - 1];
            if (outputs < 1 || outputs > (inputs == 0 ? 1 : OUTPUT_LIMIT)) {
                return -1;
            }
            int length = head + OUTPUT_BYTES * outputs;
            return length > end - at ? -1 : length;
        }

        int inputAt(int i) {
            return 1 + INPUT_BYTES * i;
        }

        int outputAt(int i) {
            return headBytes(inputs) + OUTPUT_BYTES * i;
        }

        int addressAt(int i) {
            return outputAt(i) + 4;
        }

        int witnessAt(int i) {
            return body + WITNESS_BYTES * i;
        }

        int valueOf(int i) {
            return wordAt(bytes, outputAt(i));
        }

        /** Which output of its payment input i names; it may be none that there is. */
        int whichOf(int i) {
            int at = inputAt(i) + HASH_BYTES;
            return at < body ? bytes[at] & 255 : OUTPUT_LIMIT;
        }

        boolean hasProperValues() {
            for (int i = 0; i < outputs; i++) {
                if (valueOf(i) < 1 || valueOf(i) > VALUE_LIMIT) {
                    return false;
                }
            }
            return true;
        }

        /** Tells whether one of the first n inputs is the one that stands in a row of bytes. */
        boolean hasInput(byte[] from, int at, int n) {
            for (int i = 0; i < n && i < inputs; i++) {
                if (sameBytes(bytes, inputAt(i), from, at, INPUT_BYTES)) {
                    return true;
                }
            }
            return false;
        }
    }

    /** A block of the makers, or a header alone among those that the purse knows: its number is the purse's then. */
    private static final class Block {
        static final int HEADER_BYTES = 105;
        static final int ROOT = 32;
        static final int FILTER = 64;
        static final int TIME = 96;
        static final int DIFFICULTY = 100;
        static final int NONCE = 101;
        static final int PAYMENT_LIMIT = 4;
        private static final int FIRST_BITS = 2;
        private static final int BITS_LEAST = 1;
        private static final int BITS_MOST = 6;
        private static final int SPAN = 4;
        private static final int SPAN_FAST = 40;
        private static final int SPAN_SLOW = 160;

        private final Block before;
        private final int number;
        private final int height;
        private int work;
        private final byte[] header = new byte[HEADER_BYTES];
        private final byte[] id = new byte[HASH_BYTES];
        private final Payment[] payments = new Payment[PAYMENT_LIMIT];
        private int count;
        private byte[] filter;
        private int filterLength;
        private int[] numbers;

        Block(Block before, int number) {
            this.before = before;
            this.number = number;
            height = before == null ? 0 : before.height + 1;
        }

        int bits() {
            return header[DIFFICULTY] & 255;
        }

        int time() {
            return wordAt(header, TIME);
        }

        int nonce() {
            return wordAt(header, NONCE);
        }

        /** Takes over a header, whose ID is known, as a whole. */
        void takeHeader(byte[] from, byte[] itsId) {
            System.arraycopy(from, 0, header, 0, HEADER_BYTES);
            System.arraycopy(itsId, 0, id, 0, HASH_BYTES);
            sumWork();
        }

        void sumWork() {
            work = (1 << (bits() & 31)) + (before == null ? 0 : before.work);
        }

        /** What D a block on this one has to have. */
        int bitsOfNext() {
            if ((height + 1) % SPAN != 0) {
                return bits();
            }
            Block first = this;
            for (int i = 1; i < SPAN && first.before != null; i++) {
                first = first.before;
            }
            int span = time() - first.time();
            if (span < SPAN_FAST) {
                return Math.min(bits() + 1, BITS_MOST);
            }
            return span > SPAN_SLOW ? Math.max(bits() - 1, BITS_LEAST) : bits();
        }

        static boolean isProved(byte[] id, int bits) {
            return bits == 0 || bits <= 32 && wordAt(id, 0) >>> 32 - bits == 0;
        }

        void addPayment(Payment one) {
            if (count < PAYMENT_LIMIT) {
                payments[count] = one;
                count++;
            }
        }

        /** The payment with this ID, the first of the nearest block; of this block only the first n count. */
        Payment findPayment(byte[] from, int at, int n) {
            int end = n;
            for (Block one = this; one != null; one = one.before) {
                for (int i = 0; i < end && i < one.count; i++) {
                    if (sameBytes(one.payments[i].id, 0, from, at, HASH_BYTES)) {
                        return one.payments[i];
                    }
                }
                end = PAYMENT_LIMIT;
            }
            return null;
        }

        /** Tells whether an input of this block or of one before it is the one in a row of bytes. */
        boolean hasInput(byte[] from, int at) {
            for (Block one = this; one != null; one = one.before) {
                for (int i = 0; i < one.count; i++) {
                    if (one.payments[i].hasInput(from, at, INPUT_LIMIT)) {
                        return true;
                    }
                }
            }
            return false;
        }

        static int numberOf(long mark, int n) {
            return (int) (mark * 64 * n >>> 32);
        }

        boolean meets(long mark) {
            if (numbers == null) {
                return false;
            }
            int number = numberOf(mark, numbers.length);
            for (int i = 0; i < numbers.length; i++) {
                if (numbers[i] == number) {
                    return true;
                }
            }
            return false;
        }

        /** Copies the header (0), the filter (1) or the payments (2), and tells how many bytes that is. */
        int copyPart(int what, byte[] to) {
            if (what == 0) {
                return copyRow(header, HEADER_BYTES, to, 0);
            }
            if (what == 1) {
                return filter == null ? 0 : copyRow(filter, filterLength, to, 0);
            }
            int length = 0;
            for (int i = 0; i < count; i++) {
                length = copyRow(payments[i].bytes, payments[i].bytes.length, to, length);
            }
            return length;
        }

        private static int copyRow(byte[] from, int n, byte[] to, int at) {
            if (n > from.length || at > to.length - n) {
                return at;
            }
            System.arraycopy(from, 0, to, at, n);
            return at + n;
        }
    }

    /** The blocks that were made, and the payments that wait for one. */
    private static final class Makers {
        static final int QUEUE_LIMIT = 12;
        static final byte[] NOBODY = {-1, -1, -1, -1, -1, -1, -1, -1, -1, -1, -1, -1, -1, -1, -1, -1, -1, -1, -1, -1};
        private static final int BLOCK_LIMIT = 40;
        private static final int MINTED = 1000;
        private static final int FILTER_LIMIT = 32;
        private static final int ADDRESS_LIMIT = 24;
        private static final int NONCE_LIMIT = 1000000;

        private final Sha sha;
        private final Signer signer;
        private final Block[] blocks = new Block[BLOCK_LIMIT];
        private int blockCount;
        private final Payment[] queue = new Payment[QUEUE_LIMIT];
        private int queueLength;
        private final byte[] ids = new byte[HASH_BYTES * Block.PAYMENT_LIMIT];
        private final byte[] addresses = new byte[ADDRESS_BYTES * ADDRESS_LIMIT];
        private int addressCount;
        private final byte[] bitRow = new byte[FILTER_LIMIT];
        private final byte[] digest = new byte[HASH_BYTES];

        Makers(Sha sha, Signer signer) {
            this.sha = sha;
            this.signer = signer;
        }

        Block blockAt(int b) {
            return b < 0 || b >= blockCount ? null : blocks[b];
        }

        /** The first block with this ID, or null. */
        Block firstWith(byte[] id) {
            for (int b = 0; b < blockCount; b++) {
                if (sameBytes(blocks[b].id, 0, id, 0, HASH_BYTES)) {
                    return blocks[b];
                }
            }
            return null;
        }

        boolean isDone() {
            return blockCount >= BLOCK_LIMIT;
        }

        boolean enqueue(byte[] bytes) {
            int body = Payment.bodyBytes(bytes, 0, bytes.length);
            if (body < 0 || bytes[0] == 0 || queueLength >= QUEUE_LIMIT
                    || body + WITNESS_BYTES * bytes[0] != bytes.length) {
                return false;
            }
            Payment one = Payment.of(bytes, body, sha);
            if (!one.hasProperValues()) {
                return false;
            }
            queue[queueLength] = one;
            queueLength++;
            return true;
        }

        /** A block behind one (behind none, if that is null), so far with its mint alone. */
        Block begin(Block before, byte[] payee) {
            Block one = new Block(before, blockCount);
            one.addPayment(makeMint(blockCount, payee));
            return one;
        }

        /** Adds what waits and is good in the block. */
        void takeGood(Block one) {
            int kept = 0;
            for (int i = 0; i < queueLength; i++) {
                Payment payment = queue[i];
                if (one.count < Block.PAYMENT_LIMIT && isGood(payment, one)) {
                    one.addPayment(payment);
                } else {
                    queue[kept] = payment;
                    kept++;
                }
            }
            queueLength = kept;
        }

        /** Makes the header of a block that has all its payments, and answers its number. */
        int complete(Block one, int seconds) {
            if (isDone()) {
                return FULL;
            }
            Block before = one.before;
            byte[] header = one.header;
            if (before == null) {
                header[Block.DIFFICULTY] = Block.FIRST_BITS;
            } else {
                System.arraycopy(before.id, 0, header, 0, HASH_BYTES);
                storeWord(before.time() + seconds, header, Block.TIME);
                header[Block.DIFFICULTY] = (byte) before.bitsOfNext();
            }
            for (int i = 0; i < one.count; i++) {
                System.arraycopy(one.payments[i].id, 0, ids, HASH_BYTES * i, HASH_BYTES);
            }
            sha.foldRoot(ids, one.count);
            System.arraycopy(ids, 0, header, Block.ROOT, HASH_BYTES);
            makeFilter(one);
            sha.hashOf(one.filter, 0, one.filterLength, digest);
            System.arraycopy(digest, 0, header, Block.FILTER, HASH_BYTES);
            prove(one);
            blocks[blockCount] = one;
            blockCount++;
            return one.number;
        }

        private Payment makeMint(int number, byte[] payee) {
            byte[] bytes = new byte[Payment.MINT_BYTES];
            bytes[1] = (byte) (number >> 8);
            bytes[2] = (byte) number;
            bytes[3] = 1;
            storeWord(MINTED, bytes, 4);
            System.arraycopy(payee, 0, bytes, 8, ADDRESS_BYTES);
            return Payment.of(bytes, Payment.MINT_BYTES, sha);
        }

        private boolean isGood(Payment payment, Block one) {
            long paid = 0;
            for (int i = 0; i < payment.inputs; i++) {
                int at = payment.inputAt(i);
                Payment named = one.findPayment(payment.bytes, at, one.count);
                int which = payment.whichOf(i);
                if (named == null || which >= named.outputs || payment.hasInput(payment.bytes, at, i)
                        || one.hasInput(payment.bytes, at)) {
                    return false;
                }
                if (!signer.opens(payment.bytes, payment.witnessAt(i), named.bytes, named.addressAt(which))) {
                    return false;
                }
                paid += named.valueOf(which);
            }
            for (int i = 0; i < payment.outputs; i++) {
                paid -= payment.valueOf(i);
            }
            if (paid < 0) {
                return false;
            }
            for (int i = 0; i < payment.inputs; i++) {
                if (payment.proof[i] == 0) {
                    boolean right = signer.isRight(payment.bytes, payment.witnessAt(i), payment.id, i);
                    payment.proof[i] = right ? 1 : 2;
                }
                if (payment.proof[i] != 1) {
                    return false;
                }
            }
            return true;
        }

        private void makeFilter(Block one) {
            addressCount = 0;
            for (int i = 0; i < one.count; i++) {
                Payment payment = one.payments[i];
                for (int o = 0; o < payment.outputs; o++) {
                    gather(payment.bytes, payment.addressAt(o));
                }
                for (int in = 0; in < payment.inputs; in++) {
                    Payment named = one.findPayment(payment.bytes, payment.inputAt(in), i);
                    int which = payment.whichOf(in);
                    if (named != null && which < named.outputs) {
                        gather(named.bytes, named.addressAt(which));
                    }
                }
            }
            int[] numbers = new int[addressCount];
            for (int i = 0; i < addressCount; i++) {
                long mark = sha.markOf(one.header, addresses, ADDRESS_BYTES * i);
                int number = Block.numberOf(mark, addressCount);
                int at = i;
                for (; at > 0 && numbers[at - 1] > number; at--) {
                    numbers[at] = numbers[at - 1];
                }
                numbers[at] = number;
            }
            one.numbers = numbers;
            one.filterLength = packNumbers(numbers);
            one.filter = Arrays.copyOf(bitRow, one.filterLength);
        }

        private void gather(byte[] from, int at) {
            if (addressCount >= ADDRESS_LIMIT) {
                return;
            }
            for (int i = 0; i < addressCount; i++) {
                if (sameBytes(addresses, ADDRESS_BYTES * i, from, at, ADDRESS_BYTES)) {
                    return;
                }
            }
            System.arraycopy(from, at, addresses, ADDRESS_BYTES * addressCount, ADDRESS_BYTES);
            addressCount++;
        }

        /** Writes the filter's bytes into the row of bits and answers how many they are. */
        private int packNumbers(int[] numbers) {
            Arrays.fill(bitRow, (byte) 0);
            bitRow[0] = (byte) numbers.length;
            int bit = 8;
            int before = 0;
            for (int i = 0; i < numbers.length; i++) {
                int more = numbers[i] - before;
                before = numbers[i];
                for (int ones = more / 64; ones > 0; ones--) {
                    setBit(bit);
                    bit++;
                }
                bit++;
                for (int place = 5; place >= 0; place--) {
                    if ((more >> place & 1) == 1) {
                        setBit(bit);
                    }
                    bit++;
                }
            }
            return Math.min((bit + 7) / 8, FILTER_LIMIT);
        }

        private void setBit(int bit) {
            if (bit / 8 < FILTER_LIMIT) {
                bitRow[bit / 8] |= (byte) (128 >> bit % 8);
            }
        }

        /** Only the last bytes of the header change from try to try: what stands before them is hashed once. */
        private void prove(Block one) {
            sha.begin();
            sha.put(one.header, 0, Block.NONCE);
            sha.keep();
            int nonce = 0;
            boolean proved = false;
            for (; nonce < NONCE_LIMIT && !proved; nonce++) {
                sha.goBack();
                sha.putWord(nonce);
                sha.endTwice(one.id, 0);
                proved = Block.isProved(one.id, one.bits());
            }
            storeWord(nonce - 1, one.header, Block.NONCE);
            one.sumWork();
        }
    }

    /** What the purse was given, and what the scan of its chain found there. */
    private static final class Purse {
        static final int COIN_LIMIT = 400;
        private static final int KNOWN_LIMIT = 60;
        private static final int PASSES = 65;
        /** A spoiled block may be read as more payments than a block is made of. */
        private static final int READ_LIMIT = PARCEL_BYTES / Payment.MINT_BYTES;

        private final Sha sha;
        private final KeyRing keys;
        private final Block[] known = new Block[KNOWN_LIMIT];
        /** Of each header the makers' block whose filter counts for it, null while no filter was taken. */
        private final Block[] filterFrom = new Block[KNOWN_LIMIT];
        /** Of each header the makers' block whose payments count for it, null while no block was taken. */
        private final Block[] blockFrom = new Block[KNOWN_LIMIT];
        private int knownCount;
        private int best;
        private boolean stale = true;
        private int stopHeight;
        private int stopHeader;
        private int missing;
        private final Payment[] coinFrom = new Payment[COIN_LIMIT];
        private final int[] coinOutput = new int[COIN_LIMIT];
        private final int[] coinKey = new int[COIN_LIMIT];
        private final int[] coinHeight = new int[COIN_LIMIT];
        private int coinCount;
        /** Of each header and key what the key's address is turned into there, -1 while nobody asked. */
        private final long[] marks = new long[KNOWN_LIMIT * KeyRing.KEY_COUNT];
        private final byte[] ids = new byte[HASH_BYTES * READ_LIMIT];
        private final byte[] digest = new byte[HASH_BYTES];

        Purse(Sha sha, KeyRing keys, Block first) {
            this.sha = sha;
            this.keys = keys;
            known[0] = first;
            knownCount = 1;
        }

        void startAnew() {
            Arrays.fill(marks, -1L);
            stale = true;
        }

        private int findKnown(byte[] from, int at) {
            for (int h = 0; h < knownCount; h++) {
                if (sameBytes(known[h].id, 0, from, at, HASH_BYTES)) {
                    return h;
                }
            }
            return -1;
        }

        /** Height, work and what comes behind go by the headers that are known, never by the makers' blocks. */
        int takeHeader(byte[] given) {
            sha.hashOf(given, 0, Block.HEADER_BYTES, digest);
            if (findKnown(digest, 0) >= 0) {
                return 2;
            }
            int before = findKnown(given, 0);
            if (before < 0 || !fits(known[before], given)) {
                return 0;
            }
            if (knownCount >= KNOWN_LIMIT) {
                return FULL;
            }
            Block taken = new Block(known[before], knownCount);
            taken.takeHeader(given, digest);
            known[knownCount] = taken;
            if (taken.work > known[best].work) {
                best = knownCount;
            }
            knownCount++;
            stale = true;
            return 1;
        }

        /** Tells whether a header, whose ID stands in the digest, may stand behind one. */
        private boolean fits(Block before, byte[] given) {
            int bits = given[Block.DIFFICULTY] & 255;
            int time = wordAt(given, Block.TIME);
            return bits == before.bitsOfNext() && time >= before.time() && Block.isProved(digest, bits);
        }

        /** Holds a filter against the known header with the ID of a block, the first that the makers have with it. */
        int takeFilter(Block first, byte[] given, int length) {
            int h = first == null ? -1 : findKnown(first.id, 0);
            if (h < 0) {
                return 0;
            }
            if (filterFrom[h] != null) {
                return 2;
            }
            sha.hashOf(given, 0, length, digest);
            if (!sameBytes(digest, 0, known[h].header, Block.FILTER, HASH_BYTES)) {
                return 0;
            }
            filterFrom[h] = first;
            stale = true;
            return 1;
        }

        int takeBlock(Block first, byte[] given, int length) {
            int h = first == null ? -1 : findKnown(first.id, 0);
            if (h < 0) {
                return 0;
            }
            if (blockFrom[h] != null) {
                return 2;
            }
            int n = readIds(given, length);
            if (n < 1) {
                return 0;
            }
            sha.foldRoot(ids, n);
            if (!sameBytes(ids, 0, known[h].header, Block.ROOT, HASH_BYTES)) {
                return 0;
            }
            blockFrom[h] = first;
            stale = true;
            return 1;
        }

        /** Leaves the IDs of the payments in a row; answers how many, or -1 if they can't be read to the end. */
        private int readIds(byte[] given, int length) {
            int n = 0;
            int at = 0;
            for (; n < READ_LIMIT && at < length; n++) {
                int body = Payment.bodyBytes(given, at, length);
                if (body < 0) {
                    return -1;
                }
                sha.begin();
                sha.put(given, at, body);
                sha.endTwice(ids, HASH_BYTES * n);
                at += body + WITNESS_BYTES * given[at];
            }
            return at == length ? n : -1;
        }

        int valueOf(int coin) {
            return coinFrom[coin].valueOf(coinOutput[coin]);
        }

        /** Goes along the chain anew, if something came since that was done last. */
        void scan() {
            if (!stale) {
                return;
            }
            stale = false;
            stopHeight = NONE;
            stopHeader = NONE;
            missing = 0;
            coinCount = 0;
            keys.unuse();
            keys.watch();
            for (int height = 0; height <= known[best].height; height++) {
                int h = chainAt(height);
                Block filtered = filterFrom[h];
                if (filtered == null) {
                    stopAt(height, h, 1);
                    return;
                }
                if (!meetsWatched(h, filtered)) {
                    continue;
                }
                Block one = blockFrom[h];
                if (one == null) {
                    stopAt(height, h, 2);
                    return;
                }
                useKeys(one);
                for (int pass = 0; pass < PASSES && keys.watch(); pass++) {
                    useKeys(one);
                }
                moveCoins(one, height);
            }
        }

        private void stopAt(int height, int h, int what) {
            stopHeight = height;
            stopHeader = h;
            missing = what;
        }

        /** The number of the chain's header at a height. */
        private int chainAt(int height) {
            Block one = known[best];
            for (int i = 0; i < KNOWN_LIMIT && one.height > height && one.before != null; i++) {
                one = one.before;
            }
            return one.number;
        }

        private boolean meetsWatched(int h, Block filtered) {
            for (int i = 0; i < KeyRing.KEY_COUNT; i++) {
                if (keys.isWatched(i) && filtered.meets(markAt(h, filtered, i))) {
                    return true;
                }
            }
            return false;
        }

        private long markAt(int h, Block filtered, int key) {
            int at = KeyRing.KEY_COUNT * h + key;
            if (marks[at] < 0) {
                marks[at] = sha.markOf(filtered.header, keys.nodes[key], KeyRing.ADDRESS);
            }
            return marks[at];
        }

        /** The coins wait until no more keys come to be watched: only the last time that a block is done counts. */
        private void useKeys(Block one) {
            for (int i = 0; i < one.count; i++) {
                Payment payment = one.payments[i];
                for (int o = 0; o < payment.outputs; o++) {
                    int key = keys.findWatched(payment.bytes, payment.addressAt(o));
                    if (key >= 0) {
                        keys.use(key);
                    }
                }
            }
        }

        private void moveCoins(Block one, int height) {
            for (int i = 0; i < one.count; i++) {
                Payment payment = one.payments[i];
                removeNamed(payment);
                for (int o = 0; o < payment.outputs; o++) {
                    int key = keys.findWatched(payment.bytes, payment.addressAt(o));
                    if (key >= 0 && coinCount < COIN_LIMIT) {
                        coinFrom[coinCount] = payment;
                        coinOutput[coinCount] = o;
                        coinKey[coinCount] = key;
                        coinHeight[coinCount] = height;
                        coinCount++;
                    }
                }
            }
        }

        private void removeNamed(Payment payment) {
            int kept = 0;
            for (int c = 0; c < coinCount; c++) {
                if (namesCoin(payment, c)) {
                    continue;
                }
                coinFrom[kept] = coinFrom[c];
                coinOutput[kept] = coinOutput[c];
                coinKey[kept] = coinKey[c];
                coinHeight[kept] = coinHeight[c];
                kept++;
            }
            coinCount = kept;
        }

        private boolean namesCoin(Payment payment, int c) {
            for (int i = 0; i < payment.inputs; i++) {
                if (payment.whichOf(i) == coinOutput[c]
                        && sameBytes(payment.bytes, payment.inputAt(i), coinFrom[c].id, 0, HASH_BYTES)) {
                    return true;
                }
            }
            return false;
        }
    }

    /** A payment that the purse makes: its coins are chosen, then it is written, signed and sent. */
    private static final class Draft {
        static final int DROPPED = 0;
        static final int MADE = 1;
        static final int SIGNED = 2;
        static final int SENT = 3;
        static final int INPUT_WEIGHT = 130;
        private static final int OUTPUT_WEIGHT = 24;
        private static final int OWN_WEIGHT = 2;
        private static final int SLACK = 60;
        private static final int LOOK_LIMIT = 2000;
        private static final int MOST_BYTES = 2 + INPUT_LIMIT * (INPUT_BYTES + WITNESS_BYTES) + 2 * OUTPUT_BYTES;

        private int state;
        private int inputs;
        private int outputs;
        private int fee;
        private int rest;
        private int looked;
        private int body;
        private final int[] taken = new int[INPUT_LIMIT];
        private final int[] keyOf = new int[INPUT_LIMIT];
        private final byte[] bytes = new byte[MOST_BYTES];
        private final byte[] id = new byte[HASH_BYTES];

        /** Chooses among n coins, the greatest first; answers false if they don't do. */
        boolean choose(int[] values, int n, int amount, int rate) {
            return chooseRow(values, n, amount, rate) || chooseGreatest(values, n, amount, rate);
        }

        private static int feeOf(int rate, int k, int m) {
            return rate * (OWN_WEIGHT + INPUT_WEIGHT * k + OUTPUT_WEIGHT * m);
        }

        private boolean chooseRow(int[] values, int n, int amount, int rate) {
            int k = 0;
            int next = 0;
            int total = 0;
            boolean open = true;
            looked = 0;
            while (looked < LOOK_LIMIT) {
                if (open && k < INPUT_LIMIT && next < n) {
                    taken[k] = next;
                    total += values[next];
                    k++;
                    next++;
                    int above = total - amount - feeOf(rate, k, 1);
                    open = above < 0 && k < INPUT_LIMIT;
                    looked++;
                    if (above >= 0 && above <= SLACK) {
                        settle(k, 1, total - amount, 0);
                        return true;
                    }
                } else if (k > 0) {
                    k--;
                    next = taken[k] + 1;
                    total -= values[taken[k]];
                    open = true;
                    looked++;
                } else {
                    break;
                }
            }
            return false;
        }

        private boolean chooseGreatest(int[] values, int n, int amount, int rate) {
            int total = 0;
            for (int k = 1; k <= n && k <= INPUT_LIMIT; k++) {
                taken[k - 1] = k - 1;
                total += values[k - 1];
                if (total < amount + feeOf(rate, k, 1)) {
                    continue;
                }
                int above = total - amount - feeOf(rate, k, 2);
                if (above > SLACK) {
                    settle(k, 2, feeOf(rate, k, 2), above);
                } else {
                    settle(k, 1, total - amount, 0);
                }
                return true;
            }
            return false;
        }

        private void settle(int inputCount, int outputCount, int all, int left) {
            inputs = inputCount;
            outputs = outputCount;
            fee = all;
            rest = left;
        }

        void beginInputs() {
            body = 2 + INPUT_BYTES * inputs + OUTPUT_BYTES * outputs;
            bytes[0] = (byte) inputs;
            bytes[1 + INPUT_BYTES * inputs] = (byte) outputs;
        }

        void putInput(int i, byte[] from, int which, int key) {
            int at = 1 + INPUT_BYTES * i;
            System.arraycopy(from, 0, bytes, at, HASH_BYTES);
            bytes[at + HASH_BYTES] = (byte) which;
            keyOf[i] = key;
        }

        void putOutput(int i, int value, byte[] from, int addressAt) {
            int at = 2 + INPUT_BYTES * inputs + OUTPUT_BYTES * i;
            storeWord(value, bytes, at);
            System.arraycopy(from, addressAt, bytes, at + 4, ADDRESS_BYTES);
        }

        int witnessAt(int i) {
            return body + WITNESS_BYTES * i;
        }

        /** How many bytes can be asked for now. */
        int length() {
            if (state == DROPPED) {
                return 0;
            }
            return state == MADE ? body : witnessAt(inputs);
        }

        boolean names(byte[] payment, int which) {
            for (int i = 0; state != DROPPED && i < inputs; i++) {
                int at = 1 + INPUT_BYTES * i;
                if (bytes[at + HASH_BYTES] == which && sameBytes(bytes, at, payment, 0, HASH_BYTES)) {
                    return true;
                }
            }
            return false;
        }
    }
}
