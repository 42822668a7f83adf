import java.io.ByteArrayOutputStream;
import java.math.BigInteger;
import java.security.GeneralSecurityException;
import java.security.MessageDigest;
import java.util.Arrays;
import javax.crypto.Cipher;
import javax.crypto.Mac;
import javax.crypto.spec.ChaCha20ParameterSpec;
import javax.crypto.spec.IvParameterSpec;
import javax.crypto.spec.SecretKeySpec;

/** The document's terms by way of the Java library, which shares no line with SealBox. */
final class Reference {
    static final String[] TEXTS = {
        "v1 key", "v1 iv", "v1 hide", "v1 turn", "v1 first a", "v1 first b",
        "v1 greet a", "v1 greet b", "v1 talk a", "v1 talk b", "v1 done",
    };

    private Reference() {
    }

    static byte[] digest(byte[] bytes) {
        try {
            return MessageDigest.getInstance("SHA-256").digest(bytes);
        } catch (GeneralSecurityException e) {
            throw new AssertionError(e);
        }
    }

    static byte[] mac(byte[] key, byte[] bytes) {
        try {
            Mac mac = Mac.getInstance("HmacSHA256");
            // the library refuses an empty key; 0s behind a short key change nothing
            mac.init(new SecretKeySpec(key.length == 0 ? new byte[1] : key, "HmacSHA256"));
            return mac.doFinal(bytes);
        } catch (GeneralSecurityException e) {
            throw new AssertionError(e);
        }
    }

    static byte[] stretch(byte[] key, byte[] info, int n) {
        ByteArrayOutputStream all = new ByteArrayOutputStream();
        byte[] part = new byte[0];
        for (int i = 1; all.size() < n; i++) {
            part = mac(key, join(part, info, new byte[] {(byte) i}));
            all.writeBytes(part);
        }
        return Arrays.copyOf(all.toByteArray(), n);
    }

    static byte[] label(byte[] key, int w, byte[] context, int n) {
        byte[] text = Check.text(TEXTS[w]);
        byte[] sizes = {(byte) (n / 256), (byte) (n % 256), (byte) text.length};
        return stretch(key, join(sizes, text, new byte[] {(byte) context.length}, context), n);
    }

    static byte[] keyBlock(byte[] key, byte[] nonce, int counter) {
        try {
            Cipher cipher = Cipher.getInstance("ChaCha20");
            cipher.init(Cipher.ENCRYPT_MODE, new SecretKeySpec(key, "ChaCha20"),
                    new ChaCha20ParameterSpec(nonce, counter));
            return cipher.doFinal(new byte[64]);
        } catch (GeneralSecurityException e) {
            throw new AssertionError(e);
        }
    }

    static byte[] tally(byte[] key, byte[] bytes) {
        BigInteger prime = BigInteger.TWO.pow(130).subtract(BigInteger.valueOf(5));
        BigInteger r = multiplier(key);
        BigInteger a = BigInteger.ZERO;
        for (int k = 0; k < bytes.length; k += 16) {
            byte[] piece = Arrays.copyOfRange(bytes, k, Math.min(k + 16, bytes.length));
            a = a.add(number(join(piece, new byte[] {1}))).multiply(r).mod(prime);
        }
        BigInteger sum = a.add(number(Arrays.copyOfRange(key, 16, 32)));
        byte[] answer = new byte[16];
        for (int i = 0; i < 16; i++) {
            answer[i] = sum.shiftRight(8 * i).byteValue();
        }
        return answer;
    }

    /** The R of a tally. */
    static BigInteger multiplier(byte[] key) {
        return number(Arrays.copyOf(key, 16)).and(new BigInteger("0ffffffc0ffffffc0ffffffc0fffffff", 16));
    }

    static byte[] nonce(byte[] iv, long number) {
        byte[] nonce = iv.clone();
        for (int i = 0; i < 8; i++) {
            nonce[11 - i] ^= (byte) (number >>> 8 * i);
        }
        return nonce;
    }

    static byte[] seal(byte[] key, byte[] iv, long number, byte[] packet, int head) {
        try {
            Cipher cipher = packetCipher(Cipher.ENCRYPT_MODE, key, iv, number, packet, head);
            return join(Arrays.copyOf(packet, head), cipher.doFinal(packet, head, packet.length - head));
        } catch (GeneralSecurityException e) {
            throw new AssertionError(e);
        }
    }

    /** null when the packet's end is not the tally. */
    static byte[] open(byte[] key, byte[] iv, long number, byte[] packet, int head) {
        try {
            Cipher cipher = packetCipher(Cipher.DECRYPT_MODE, key, iv, number, packet, head);
            return join(Arrays.copyOf(packet, head), cipher.doFinal(packet, head, packet.length - head));
        } catch (javax.crypto.AEADBadTagException e) {
            return null;
        } catch (GeneralSecurityException e) {
            throw new AssertionError(e);
        }
    }

    private static Cipher packetCipher(int mode, byte[] key, byte[] iv, long number, byte[] packet, int head)
            throws GeneralSecurityException {
        Cipher cipher = Cipher.getInstance("ChaCha20-Poly1305");
        cipher.init(mode, new SecretKeySpec(key, "ChaCha20"), new IvParameterSpec(nonce(iv, number)));
        cipher.updateAAD(packet, 0, head);
        return cipher;
    }

    static byte[] mask(byte[] hide, byte[] packet, int place) {
        byte[] sample = Arrays.copyOfRange(packet, place + 4, place + 20);
        int counter = number(Arrays.copyOf(sample, 4)).intValue();
        return Arrays.copyOf(keyBlock(hide, Arrays.copyOfRange(sample, 4, 16), counter), 5);
    }

    /** How many bytes the number has, said by a first byte that is not shielded. */
    static int numberSize(int first) {
        return first % 4 + 1;
    }

    static byte[] shield(byte[] hide, byte[] packet, int place) {
        return shieldNumber(hide, packet, place, numberSize(packet[0] & 255));
    }

    static byte[] unshield(byte[] hide, byte[] packet, int place) {
        return shieldNumber(hide, packet, place, numberSize(bareFirst(hide, packet, place)));
    }

    static int bareFirst(byte[] hide, byte[] packet, int place) {
        int first = packet[0] & 255;
        return first ^ (mask(hide, packet, place)[0] & 255) % (first >= 128 ? 16 : 32);
    }

    private static byte[] shieldNumber(byte[] hide, byte[] packet, int place, int size) {
        byte[] mask = mask(hide, packet, place);
        byte[] answer = packet.clone();
        answer[0] = (byte) bareFirst(hide, packet, place);
        for (int i = 1; i <= size; i++) {
            answer[place + i - 1] ^= mask[i];
        }
        return answer;
    }

    static byte[] join(byte[]... parts) {
        ByteArrayOutputStream all = new ByteArrayOutputStream();
        for (byte[] part : parts) {
            all.writeBytes(part);
        }
        return all.toByteArray();
    }

    private static BigInteger number(byte[] lowestFirst) {
        byte[] highestFirst = new byte[lowestFirst.length];
        for (int i = 0; i < lowestFirst.length; i++) {
            highestFirst[lowestFirst.length - 1 - i] = lowestFirst[i];
        }
        return new BigInteger(1, highestFirst);
    }
}
