import java.util.NoSuchElementException;

/** A box of seals for packets; the promises that it keeps are those of the document DOC.md. */
public final class SealBox {
    private static final int TAPE_MOST = 2048;
    private static final int OUT_MOST = 2064;
    private static final int SLOTS = 8;
    private static final int SLOT_MOST = 128;
    private static final int GUARDS = 4;
    private static final int MADE_MOST = 1024;
    private static final int CONTEXT_MOST = 255;
    private static final int KEY_SIZE = 32;
    private static final int NONCE_SIZE = 12;
    private static final int TALLY_SIZE = 16;
    private static final int LABELS = 11;
    /** A sample begins 4 bytes behind the number's first byte and has 16 bytes. */
    private static final int SHIELD_ROOM = 20;
    private static final int NOT_ARMED = -1;

    private final Row tape = new Row(TAPE_MOST);
    private final Row made = new Row(OUT_MOST);
    private final Row nothing = new Row(0);
    private final Row[] slots = new Row[SLOTS];
    private final Guard[] guards = new Guard[GUARDS];
    private final Digester digester = new Digester();
    private final KeyMaker keyMaker = new KeyMaker(digester);
    private final KeyStream keyStream = new KeyStream();
    private final Tallier tallier = new Tallier();
    private final Sealer sealer = new Sealer(keyStream, tallier);

    public SealBox() {
        for (int i = 0; i < SLOTS; i++) {
            slots[i] = new Row(SLOT_MOST);
        }
        for (int i = 0; i < GUARDS; i++) {
            guards[i] = new Guard();
        }
    }

    public int feed(int n, long v) throws IllegalArgumentException, IllegalStateException {
        if (n < 1 || n > 8) {
            throw new IllegalArgumentException("feed takes 1 to 8 bytes");
        }
        if (tape.count + n > TAPE_MOST) {
            throw new IllegalStateException("the tape has no room");
        }
        for (int i = 0; i < n; i++) {
            tape.add((int) (v >>> 8 * i));
        }
        return tape.count;
    }

    public int wipe() {
        int had = tape.count;
        tape.count = 0;
        return had;
    }

    public int keep(int slot, boolean out) throws IllegalArgumentException, IllegalStateException {
        needSlot(slot);
        Row source = out ? made : tape;
        if (source.count > SLOT_MOST) {
            throw new IllegalStateException("too many bytes for a slot");
        }
        slots[slot].copy(source);
        if (!out) {
            tape.count = 0;
        }
        return slots[slot].count;
    }

    public void digest() {
        digester.start();
        digester.put(tape.bytes, tape.count, 0);
        digester.finish(made.bytes);
        made.count = Digester.SIZE;
        tape.count = 0;
    }

    public void mac(int slot) throws IllegalArgumentException {
        needSlot(slot);
        keyMaker.makeMac(slots[slot], tape, made);
        tape.count = 0;
    }

    public void stretch(int slot, int n) throws IllegalArgumentException {
        needSlot(slot);
        needMadeSize(n);
        keyMaker.makeStretch(slots[slot], tape, n, made);
        tape.count = 0;
    }

    public void label(int slot, int w, int n) throws IllegalArgumentException, IllegalStateException {
        needSlot(slot);
        if (w < 0 || w >= LABELS) {
            throw new IllegalArgumentException("no such label");
        }
        needMadeSize(n);
        if (tape.count > CONTEXT_MOST) {
            throw new IllegalStateException("the tape is too long for a context");
        }
        keyMaker.makeLabel(slots[slot], w, tape, n, made);
        tape.count = 0;
    }

    public void block(int slot, int counter) throws IllegalArgumentException, IllegalStateException {
        needSlot(slot);
        needKey(slot);
        if (tape.count != NONCE_SIZE) {
            throw new IllegalStateException("the tape is no nonce of 12 bytes");
        }
        keyStream.make(slots[slot].bytes, tape.bytes, counter);
        System.arraycopy(keyStream.bytes, 0, made.bytes, 0, KeyStream.SIZE);
        made.count = KeyStream.SIZE;
        tape.count = 0;
    }

    public void tally(int slot) throws IllegalArgumentException, IllegalStateException {
        needSlot(slot);
        needKey(slot);
        tallier.start(slots[slot].bytes);
        tallier.put(tape.bytes, 0, tape.count, false);
        tallier.finish(made.bytes);
        made.count = TALLY_SIZE;
        tape.count = 0;
    }

    public void arm(int guard, int slot) throws IllegalArgumentException, IllegalStateException {
        needGuard(guard);
        needSlot(slot);
        needKey(slot);
        Guard armed = guards[guard];
        armed.secret.copy(slots[slot]);
        armed.phase = 0;
        keyMaker.makeLabel(armed.secret, KeyMaker.LABEL_HIDE, nothing, KEY_SIZE, armed.hide);
        renewKeys(armed);
    }

    public int turn(int guard) throws IllegalArgumentException, IllegalStateException {
        needGuard(guard);
        needArmed(guard);
        Guard turned = guards[guard];
        keyMaker.makeLabel(turned.secret, KeyMaker.LABEL_TURN, nothing, KEY_SIZE, turned.secret);
        turned.phase = 1 - turned.phase;
        renewKeys(turned);
        return turned.phase;
    }

    public int seal(int guard, long number, int head) throws IllegalArgumentException, IllegalStateException {
        needGuard(guard);
        needNumber(number);
        if (head < 0 || head > tape.count) {
            throw new IllegalArgumentException("the head is not within the tape");
        }
        needArmed(guard);
        sealer.sealText(guards[guard], number, tape, head, made);
        tape.count = 0;
        return made.count;
    }

    public int open(int guard, long number, int head) throws IllegalArgumentException, IllegalStateException {
        needGuard(guard);
        needNumber(number);
        if (head < 0 || head > tape.count - TALLY_SIZE) {
            throw new IllegalArgumentException("the tape has no room for head and tally");
        }
        needArmed(guard);
        boolean opened = sealer.openText(guards[guard], number, tape, head, made);
        tape.count = 0;
        return opened ? made.count : -1;
    }

    public int shield(int guard, int place, boolean does) throws IllegalArgumentException, IllegalStateException {
        needGuard(guard);
        if (place < 1 || place > tape.count - SHIELD_ROOM) {
            throw new IllegalArgumentException("the tape has no number and sample there");
        }
        needArmed(guard);
        made.copy(tape);
        tape.count = 0;
        return sealer.hideNumber(guards[guard], made, place, does);
    }

    public int out(int k) throws NoSuchElementException {
        needOutByte(k);
        return made.bytes[k] & 255;
    }

    public long outs(int k) throws NoSuchElementException {
        needOutByte(k);
        int many = Math.min(8, made.count - k);
        long number = 0;
        for (int i = 0; i < many; i++) {
            number |= (made.bytes[k + i] & 255L) << 8 * i;
        }
        return number;
    }

    public int look(int what) throws NoSuchElementException {
        if (what < 0 || what >= 2 + SLOTS + GUARDS) {
            throw new NoSuchElementException("nothing to look at");
        }
        if (what == 0) {
            return tape.count;
        }
        if (what == 1) {
            return made.count;
        }
        if (what < 2 + SLOTS) {
            return slots[what - 2].count;
        }
        return guards[what - 2 - SLOTS].phase;
    }

    private void renewKeys(Guard guard) {
        keyMaker.makeLabel(guard.secret, KeyMaker.LABEL_KEY, nothing, KEY_SIZE, guard.key);
        keyMaker.makeLabel(guard.secret, KeyMaker.LABEL_IV, nothing, NONCE_SIZE, guard.iv);
    }

    private static void needSlot(int slot) {
        if (slot < 0 || slot >= SLOTS) {
            throw new IllegalArgumentException("no such slot");
        }
    }

    private void needKey(int slot) {
        if (slots[slot].count != KEY_SIZE) {
            throw new IllegalStateException("the slot has not 32 bytes");
        }
    }

    private static void needMadeSize(int n) {
        if (n < 1 || n > MADE_MOST) {
            throw new IllegalArgumentException("1 to 1024 bytes can be made");
        }
    }

    private static void needGuard(int guard) {
        if (guard < 0 || guard >= GUARDS) {
            throw new IllegalArgumentException("no such guard");
        }
    }

    private void needArmed(int guard) {
        if (guards[guard].phase == NOT_ARMED) {
            throw new IllegalStateException("the guard is not armed");
        }
    }

    private static void needNumber(long number) {
        if (number < 0) {
            throw new IllegalArgumentException("the number is below 0");
        }
    }

    private void needOutByte(int k) {
        if (k < 0 || k >= made.count) {
            throw new NoSuchElementException("the OUT has no such byte");
        }
    }

    /** Four bytes as a word, lowest first. */
    private static int readWord(byte[] row, int at) {
        return row[at] & 255 | (row[at + 1] & 255) << 8 | (row[at + 2] & 255) << 16 | (row[at + 3] & 255) << 24;
    }

    /** The lowest bytes of a number, lowest first. */
    private static void writeBytes(byte[] row, int at, int n, long number) {
        for (int i = 0; i < n; i++) {
            row[at + i] = (byte) (number >>> 8 * i);
        }
    }

    /** Bytes in a row of fixed room, so that no call has to make one. */
    private static final class Row {
        private final byte[] bytes;
        private int count;

        Row(int most) {
            bytes = new byte[most];
        }

        void add(int b) {
            if (count < bytes.length) {
                bytes[count] = (byte) b;
                count++;
            }
        }

        void copy(Row other) {
            count = Math.min(other.count, bytes.length);
            System.arraycopy(other.bytes, 0, bytes, 0, count);
        }
    }

    /** What a guard holds; only a secret of 32 bytes gets here. */
    private static final class Guard {
        private final Row secret = new Row(KEY_SIZE);
        private final Row key = new Row(KEY_SIZE);
        private final Row iv = new Row(NONCE_SIZE);
        private final Row hide = new Row(KEY_SIZE);
        private int phase = NOT_ARMED;
    }

    /** DIGEST: start, put as often as needed, finish. */
    private static final class Digester {
        private static final int SIZE = 32;
        private static final int BLOCK_SIZE = 64;
        /** Where in the last block the 8 bytes of the length begin. */
        private static final int LENGTH_AT = 56;
        private static final int[] SQUARE_ROOTS = {
            0x6a09e667, 0xbb67ae85, 0x3c6ef372, 0xa54ff53a,
            0x510e527f, 0x9b05688c, 0x1f83d9ab, 0x5be0cd19,
        };
        private static final int[] CUBE_ROOTS = {
            0x428a2f98, 0x71374491, 0xb5c0fbcf, 0xe9b5dba5,
            0x3956c25b, 0x59f111f1, 0x923f82a4, 0xab1c5ed5,
            0xd807aa98, 0x12835b01, 0x243185be, 0x550c7dc3,
            0x72be5d74, 0x80deb1fe, 0x9bdc06a7, 0xc19bf174,
            0xe49b69c1, 0xefbe4786, 0x0fc19dc6, 0x240ca1cc,
            0x2de92c6f, 0x4a7484aa, 0x5cb0a9dc, 0x76f988da,
            0x983e5152, 0xa831c66d, 0xb00327c8, 0xbf597fc7,
            0xc6e00bf3, 0xd5a79147, 0x06ca6351, 0x14292967,
            0x27b70a85, 0x2e1b2138, 0x4d2c6dfc, 0x53380d13,
            0x650a7354, 0x766a0abb, 0x81c2c92e, 0x92722c85,
            0xa2bfe8a1, 0xa81a664b, 0xc24b8b70, 0xc76c51a3,
            0xd192e819, 0xd6990624, 0xf40e3585, 0x106aa070,
            0x19a4c116, 0x1e376c08, 0x2748774c, 0x34b0bcb5,
            0x391c0cb3, 0x4ed8aa4a, 0x5b9cca4f, 0x682e6ff3,
            0x748f82ee, 0x78a5636f, 0x84c87814, 0x8cc70208,
            0x90befffa, 0xa4506ceb, 0xbef9a3f7, 0xc67178f2,
        };

        private final int[] sums = new int[8];
        private final int[] words = new int[64];
        private final byte[] pending = new byte[BLOCK_SIZE];
        private int filled;
        private long total;

        void start() {
            System.arraycopy(SQUARE_ROOTS, 0, sums, 0, 8);
            filled = 0;
            total = 0;
        }

        /** Takes the row's first n bytes, each ^ the mask (a MAC wants its key changed so). */
        void put(byte[] row, int n, int mask) {
            for (int i = 0; i < n; i++) {
                pending[filled] = (byte) (row[i] ^ mask);
                filled++;
                if (filled == BLOCK_SIZE) {
                    mixBlock();
                    filled = 0;
                }
            }
            total += n;
        }

        /** Writes the 32 bytes to the row's beginning. */
        void finish(byte[] row) {
            pending[filled] = (byte) 128;
            filled++;
            if (filled > LENGTH_AT) {
                clearPending(BLOCK_SIZE);
                mixBlock();
                filled = 0;
            }
            clearPending(LENGTH_AT);
            for (int i = 0; i < 8; i++) {
                pending[BLOCK_SIZE - 1 - i] = (byte) (8 * total >>> 8 * i);
            }
            mixBlock();
            for (int i = 0; i < SIZE; i++) {
                row[i] = (byte) (sums[i >> 2] >>> 24 - 8 * (i & 3));
            }
        }

        private void clearPending(int end) {
            for (int i = filled; i < end; i++) {
                pending[i] = 0;
            }
        }

        private void mixBlock() {
            for (int i = 0; i < BLOCK_SIZE; i++) {
                words[i >> 2] = words[i >> 2] << 8 | pending[i] & 255;
            }
            for (int t = 16; t < 64; t++) {
                int x = words[t - 15];
                int y = words[t - 2];
                int s = Integer.rotateRight(x, 7) ^ Integer.rotateRight(x, 18) ^ x >>> 3;
                int r = Integer.rotateRight(y, 17) ^ Integer.rotateRight(y, 19) ^ y >>> 10;
                words[t] = words[t - 16] + s + words[t - 7] + r;
            }
            int a = sums[0];
            int b = sums[1];
            int c = sums[2];
            int d = sums[3];
            int e = sums[4];
            int f = sums[5];
            int g = sums[6];
            int h = sums[7];
            for (int t = 0; t < 64; t++) {
                int p = h + (Integer.rotateRight(e, 6) ^ Integer.rotateRight(e, 11) ^ Integer.rotateRight(e, 25))
                        + (e & f ^ ~e & g) + CUBE_ROOTS[t] + words[t];
                int q = (Integer.rotateRight(a, 2) ^ Integer.rotateRight(a, 13) ^ Integer.rotateRight(a, 22))
                        + (a & b ^ a & c ^ b & c);
                h = g;
                g = f;
                f = e;
                e = d + p;
                d = c;
                c = b;
                b = a;
                a = p + q;
            }
            sums[0] += a;
            sums[1] += b;
            sums[2] += c;
            sums[3] += d;
            sums[4] += e;
            sums[5] += f;
            sums[6] += g;
            sums[7] += h;
        }
    }

    /** MAC, STRETCH and LABEL. */
    private static final class KeyMaker {
        private static final int LABEL_KEY = 0;
        private static final int LABEL_IV = 1;
        private static final int LABEL_HIDE = 2;
        private static final int LABEL_TURN = 3;
        private static final int PAD_SIZE = 64;
        private static final int OUTER_MASK = 92;
        private static final int INNER_MASK = 54;
        /** Two bytes of n, a text of at most 10, a context of at most 255, and their lengths. */
        private static final int INFO_MOST = 2 + 1 + 10 + 1 + CONTEXT_MOST;

        private final Digester digester;
        private final byte[] pad = new byte[PAD_SIZE];
        private final byte[] inner = new byte[Digester.SIZE];
        private final byte[] part = new byte[Digester.SIZE];
        private final byte[] partNumber = new byte[1];
        private final Row labelInfo = new Row(INFO_MOST);

        KeyMaker(Digester digester) {
            this.digester = digester;
        }

        void makeMac(Row key, Row text, Row target) {
            setKey(key);
            startMac();
            digester.put(text.bytes, text.count, 0);
            finishMac(target.bytes);
            target.count = Digester.SIZE;
        }

        /** The target may be the key itself: setKey has copied that before the target changes. */
        void makeStretch(Row key, Row info, int n, Row target) {
            setKey(key);
            int parts = (n + Digester.SIZE - 1) / Digester.SIZE;
            for (int i = 1; i <= parts; i++) {
                startMac();
                digester.put(part, i == 1 ? 0 : Digester.SIZE, 0);
                digester.put(info.bytes, info.count, 0);
                partNumber[0] = (byte) i;
                digester.put(partNumber, 1, 0);
                finishMac(part);
                int from = Digester.SIZE * (i - 1);
                System.arraycopy(part, 0, target.bytes, from, Math.min(Digester.SIZE, n - from));
            }
            target.count = n;
        }

        void makeLabel(Row key, int w, Row context, int n, Row target) {
            String text = labelText(w);
            labelInfo.count = 0;
            labelInfo.add(n >> 8);
            labelInfo.add(n);
            labelInfo.add(text.length());
            for (int i = 0; i < text.length(); i++) {
                labelInfo.add(text.charAt(i));
            }
            labelInfo.add(context.count);
            for (int i = 0; i < context.count; i++) {
                labelInfo.add(context.bytes[i]);
            }
            makeStretch(key, labelInfo, n, target);
        }

        private void setKey(Row key) {
            int size = key.count;
            if (size > PAD_SIZE) {
                digester.start();
                digester.put(key.bytes, size, 0);
                digester.finish(pad);
                size = Digester.SIZE;
            } else {
                System.arraycopy(key.bytes, 0, pad, 0, size);
            }
            for (int i = size; i < PAD_SIZE; i++) {
                pad[i] = 0;
            }
        }

        private void startMac() {
            digester.start();
            digester.put(pad, PAD_SIZE, INNER_MASK);
        }

        private void finishMac(byte[] row) {
            digester.finish(inner);
            digester.start();
            digester.put(pad, PAD_SIZE, OUTER_MASK);
            digester.put(inner, Digester.SIZE, 0);
            digester.finish(row);
        }

        private static String labelText(int w) {
            switch (w) {
                case LABEL_KEY: return "v1 key";
                case LABEL_IV: return "v1 iv";
                case LABEL_HIDE: return "v1 hide";
                case LABEL_TURN: return "v1 turn";
                case 4: return "v1 first a";
                case 5: return "v1 first b";
                case 6: return "v1 greet a";
                case 7: return "v1 greet b";
                case 8: return "v1 talk a";
                case 9: return "v1 talk b";
                default: return "v1 done";
            }
        }
    }

    /** KEY BLOCK: make leaves it in bytes. */
    private static final class KeyStream {
        private static final int SIZE = 64;
        private static final int[] OPENING_WORDS = {1634760805, 857760878, 2036477234, 1797285236};

        private final int[] first = new int[16];
        private final int[] x = new int[16];
        private final byte[] bytes = new byte[SIZE];

        /** Uses the first 32 bytes of the key and the first 12 of the nonce. */
        void make(byte[] key, byte[] nonce, int counter) {
            System.arraycopy(OPENING_WORDS, 0, first, 0, 4);
            for (int i = 0; i < 8; i++) {
                first[4 + i] = readWord(key, 4 * i);
            }
            first[12] = counter;
            for (int i = 0; i < 3; i++) {
                first[13 + i] = readWord(nonce, 4 * i);
            }
            System.arraycopy(first, 0, x, 0, 16);
            for (int i = 0; i < 10; i++) {
                mixAll();
            }
            for (int i = 0; i < 16; i++) {
                writeBytes(bytes, 4 * i, 4, x[i] + first[i]);
            }
        }

        private void mixAll() {
            mix(0, 4, 8, 12);
            mix(1, 5, 9, 13);
            mix(2, 6, 10, 14);
            mix(3, 7, 11, 15);
            mix(0, 5, 10, 15);
            mix(1, 6, 11, 12);
            mix(2, 7, 8, 13);
            mix(3, 4, 9, 14);
        }

        private void mix(int a, int b, int c, int d) {
            x[a] += x[b];
            x[d] = Integer.rotateLeft(x[d] ^ x[a], 16);
            x[c] += x[d];
            x[b] = Integer.rotateLeft(x[b] ^ x[c], 12);
            x[a] += x[b];
            x[d] = Integer.rotateLeft(x[d] ^ x[a], 8);
            x[c] += x[d];
            x[b] = Integer.rotateLeft(x[b] ^ x[c], 7);
        }
    }

    /**
     * TALLY: start, put as often as needed, finish. A number below 2^130 is held in five limbs of
     * 26 bits, so that the products of two limbs, summed, stay far inside a long.
     */
    private static final class Tallier {
        private static final int LIMBS = 5;
        private static final int LIMB_BITS = 26;
        private static final int LIMB_MASK = (1 << LIMB_BITS) - 1;
        private static final long WORD_MASK = 0xffffffffL;

        private final long[] a = new long[LIMBS];
        private final long[] r = new long[LIMBS];
        private final long[] product = new long[LIMBS];
        private final long[] s = new long[4];
        /** 16 bytes, and the byte 1 that comes behind them. */
        private final byte[] piece = new byte[TALLY_SIZE + 1];

        /** Uses the first 32 bytes of the key. */
        void start(byte[] key) {
            System.arraycopy(key, 0, piece, 0, TALLY_SIZE);
            piece[TALLY_SIZE] = 0;
            for (int i = 3; i < TALLY_SIZE; i += 4) {
                piece[i] &= 15;
            }
            for (int i = 4; i < TALLY_SIZE; i += 4) {
                piece[i] &= (byte) 252;
            }
            for (int i = 0; i < LIMBS; i++) {
                r[i] = readLimb(i);
                a[i] = 0;
            }
            for (int i = 0; i < 4; i++) {
                s[i] = readWord(key, TALLY_SIZE + 4 * i) & WORD_MASK;
            }
        }

        /** Takes n bytes from a place on; padded: as if 0s up to a multiple of 16 came behind them. */
        void put(byte[] row, int from, int n, boolean padded) {
            for (int done = 0; done < n; done += TALLY_SIZE) {
                int many = Math.min(TALLY_SIZE, n - done);
                System.arraycopy(row, from + done, piece, 0, many);
                for (int i = many; i <= TALLY_SIZE; i++) {
                    piece[i] = 0;
                }
                piece[padded ? TALLY_SIZE : many] = 1;
                addPiece();
            }
        }

        /** Writes the 16 bytes to the row's beginning. */
        void finish(byte[] row) {
            carry();
            reduce();
            long sum = 0;
            for (int i = 0; i < 4; i++) {
                // word i begins 6 * i bits inside limb i and ends in the next one
                long word = a[i] >>> 6 * i | a[i + 1] << LIMB_BITS - 6 * i;
                sum = (sum >>> 32) + (word & WORD_MASK) + s[i];
                writeBytes(row, 4 * i, 4, sum);
            }
        }

        private int readLimb(int i) {
            int bit = LIMB_BITS * i;
            return readWord(piece, bit >> 3) >>> (bit & 7) & LIMB_MASK;
        }

        private void addPiece() {
            for (int i = 0; i < LIMBS; i++) {
                a[i] += readLimb(i);
                product[i] = 0;
            }
            for (int i = 0; i < LIMBS; i++) {
                for (int j = 0; j < LIMBS; j++) {
                    int k = i + j;
                    if (k < LIMBS) {
                        product[k] += a[i] * r[j];
                    } else {
                        // 2^130 is 5 here
                        product[k - LIMBS] += 5 * a[i] * r[j];
                    }
                }
            }
            System.arraycopy(product, 0, a, 0, LIMBS);
            // after two rounds only limb 0 may be above 26 bits, by 5 at most; finish does a third
            carry();
            carry();
        }

        private void carry() {
            for (int i = 0; i < LIMBS; i++) {
                long above = a[i] >>> LIMB_BITS;
                a[i] &= LIMB_MASK;
                if (i + 1 < LIMBS) {
                    a[i + 1] += above;
                } else {
                    a[0] += 5 * above;
                }
            }
        }

        /** Takes 2^130 - 5 off if the number has it; its limbs are all 1s but for the lowest. */
        private void reduce() {
            boolean has = a[0] >= LIMB_MASK - 4;
            for (int i = 1; i < LIMBS; i++) {
                has = has && a[i] == LIMB_MASK;
            }
            if (has) {
                a[0] -= LIMB_MASK - 4;
                for (int i = 1; i < LIMBS; i++) {
                    a[i] = 0;
                }
            }
        }
    }

    /** SEALING, OPENING, SHIELDING and UNSHIELDING for armed guards. */
    private static final class Sealer {
        private final KeyStream keyStream;
        private final Tallier tallier;
        private final byte[] nonce = new byte[NONCE_SIZE];
        private final byte[] sizes = new byte[16];
        private final byte[] madeTally = new byte[TALLY_SIZE];

        Sealer(KeyStream keyStream, Tallier tallier) {
            this.keyStream = keyStream;
            this.tallier = tallier;
        }

        /** The target has room for 16 bytes more than the text. */
        void sealText(Guard guard, long number, Row text, int head, Row target) {
            setNonce(guard, number);
            target.copy(text);
            cover(guard, target, head);
            makeTally(guard, target.bytes, head, target.count);
            System.arraycopy(madeTally, 0, target.bytes, target.count, TALLY_SIZE);
            target.count += TALLY_SIZE;
        }

        /** The text has at least 16 bytes more than the head; false leaves the target empty. */
        boolean openText(Guard guard, long number, Row text, int head, Row target) {
            setNonce(guard, number);
            int size = text.count - TALLY_SIZE;
            makeTally(guard, text.bytes, head, size);
            if (!tallyStandsAt(text.bytes, size)) {
                target.count = 0;
                return false;
            }
            target.copy(text);
            target.count = size;
            cover(guard, target, head);
            return true;
        }

        /** The packet has 20 bytes from the place on; answers how many of them are the number. */
        int hideNumber(Guard guard, Row packet, int place, boolean shields) {
            byte[] row = packet.bytes;
            System.arraycopy(row, place + 8, nonce, 0, NONCE_SIZE);
            keyStream.make(guard.hide.bytes, nonce, readWord(row, place + 4));
            byte[] mask = keyStream.bytes;
            int before = row[0];
            int after = before ^ mask[0] & ((before & 128) != 0 ? 15 : 31);
            row[0] = (byte) after;
            int bare = shields ? before : after;
            int size = 1 + (bare & 3);
            for (int i = 0; i < size; i++) {
                row[place + i] ^= mask[1 + i];
            }
            return size;
        }

        private void setNonce(Guard guard, long number) {
            System.arraycopy(guard.iv.bytes, 0, nonce, 0, NONCE_SIZE);
            for (int i = 0; i < 8; i++) {
                nonce[NONCE_SIZE - 1 - i] ^= (byte) (number >>> 8 * i);
            }
        }

        /** What is behind the head becomes ^ the key blocks; doing it again takes them off. */
        private void cover(Guard guard, Row text, int head) {
            int size = text.count - head;
            for (int done = 0; done < size; done += KeyStream.SIZE) {
                keyStream.make(guard.key.bytes, nonce, 1 + done / KeyStream.SIZE);
                int many = Math.min(KeyStream.SIZE, size - done);
                for (int i = 0; i < many; i++) {
                    text.bytes[head + done + i] ^= keyStream.bytes[i];
                }
            }
        }

        private void makeTally(Guard guard, byte[] row, int head, int size) {
            keyStream.make(guard.key.bytes, nonce, 0);
            tallier.start(keyStream.bytes);
            tallier.put(row, 0, head, true);
            tallier.put(row, head, size - head, true);
            writeBytes(sizes, 0, 8, head);
            writeBytes(sizes, 8, 8, size - head);
            tallier.put(sizes, 0, sizes.length, true);
            tallier.finish(madeTally);
        }

        /** Looks at all bytes always, so that the time tells nothing of the first wrong one. */
        private boolean tallyStandsAt(byte[] row, int at) {
            int wrong = 0;
            for (int i = 0; i < TALLY_SIZE; i++) {
                wrong |= row[at + i] ^ madeTally[i];
            }
            return wrong == 0;
        }
    }
}
