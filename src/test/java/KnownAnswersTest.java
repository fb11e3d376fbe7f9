import java.nio.ByteBuffer;
import java.security.MessageDigest;
import java.security.NoSuchAlgorithmException;
import java.util.Arrays;
import java.util.HexFormat;
import java.util.stream.IntStream;

/**
 * Promises 10 and 11 at all twelve sets, held against answers of another hand: OpenSSL 3.5.7 gave
 * them once, by genpkey (-pkeyopt hexseed) and by pkeyutl -sign -rawin (how 0: -pkeyopt
 * hexcontext-string, deterministic:1; how -1: -pkeyopt message-encoding:0, hextest-entropy).
 */
public final class KnownAnswersTest {
    private static final byte[] CONTEXT = Check.bytes(20, 1, 200);
    private static final byte[] MESSAGE = Check.bytes(60, 5, 3);
    private static final byte[] NONE = {};
    /** What one object is asked for, so that all its calls are no more than 512. */
    private static final int WORDS = 491;

    /** The root; then SHA-256 of the signature's words, how 0 without RANDOM, how -1 with it. */
    private static final String[][] KNOWN = {
        {"ecaf5f3da572c8742f31637f62449b8f",
            "b35171113609cbd8b7bf14d02b3f30a8c871be122faf58ba28589e8bb923a444",
            "2f6dd2f4a81991c4dd395bc90f9d10bfb3212fe4ae670ddd8600d1827ed241b5"},
        {"dbafb59e8ca0c06a5187415a3a31ad64",
            "837c0a33a5dae7d782eadc45e5915eb5035c92696f49926aa2703a6715a2f096",
            "4acda850635120096d65b66b827c1762891d16d97a702b59613a385a00ad19da"},
        {"d0fe7ef40cf0297dbf770f147bf6f9082cd026a2edec82ca",
            "cbf83efd32efcddd7158a8e77fbbf8cddc1610105b086385203530d530e10437",
            "cbd00caf57b3f938b4a3151343bd2c3db0457601f078d8ad91c4336ba03627d1"},
        {"60f83d49c22b25227466f01c6c3179fb37ab95d1e8f06720",
            "6303e58dda4ce94ce4337baf852f40480a3fb945fc147c7362faacfb0ce1095a",
            "19694ac3e660984bd95fc0a049eadc11c3065d209bf7f82f75a3a559bdbec5c9"},
        {"79daf39d5058707114fa264c21eab41a23d78a434a2d30e675fffed9b01bbd75",
            "cb40e09b1cf423a542ff2031ad7eac8b8a6fa5600a177cf802973995c4833633",
            "2829ba0603cc23b0c45da080fd21aaf3a9bd34d85600b1028c36c756455cdc62"},
        {"dd4aa0b7558645215e7571aa711d410103099f408b93f3b6320c87faf80bc0f8",
            "b270bac3d0426ab26677be553b1b0c8097fdbe1257573180d298abc09cab571d",
            "5db6ca394fe52ab61eed03b7d8082e9689b5b07f360558c0d8bbf21e1b03ab4b"},
        {"3db2a88c4315fbdebca4a0e8d4e8b587",
            "0eac06a35e9c91fa77175b63a9a4d7652f3185fba3dc56538b04b82f2ab2c369",
            "846adbc6a90a48f54194ee32463b7f4b7d639da3bcb33d1152954c9d39dbe6ad"},
        {"33b6c1a0759551cccf5c02eae1a4e54d",
            "9b2fb8b9e7e3655997020b36ac0be4782906cb696bf707e44d961f05bde2f74c",
            "69ef93dcad0de4a9e92b70e8a0bbf67ea7a6a75a0580054a738f8e15712ce2fe"},
        {"9dcb53bfa6acaf9dc2429bdbe780ad1e135e8b89ae7f000a",
            "7cbbf4287370ab84beaf80336e4ae7fcdf3bed3448f074e134966beffa65df34",
            "40dc5ede0b490e1576ba98f568563c328f6fbaa578bf793964c6803facea9db0"},
        {"5912f8d487b296bf8ae47e7e73142d9ff53df4537c373f6e",
            "d1782f623418a3f85d615aa0972f0e5952416ef1ce63ac76cb06846a2e8e1da1",
            "24c34052103b072f1df2764a51b0a57a0debf57dbaba26f22a028c1bc30f152b"},
        {"b4a596d4b517f6190eda5b1de6bce672f4a2b380c4c087f642a669b2f57362e4",
            "db15d2940f7681bae54cd1d4267626bbb409b59ab3b52c92e031237a96fc3475",
            "3677a0f15583927a45c6132e788b61c026b8295c603a0ddaecc7ebcc7cb0cc1a"},
        {"8e0ca8cffd054bc97481fbd841fa119fbf7bed9620597f09cd445c3cd3c5707c",
            "f0ef43fe894d836bf6726b48f3c679bbdfd5d7285af46a8cbf24fb1e54f1640c",
            "f30eca48a2c4be3df2f24ec78b31bb86e4aae1b96dbaac8a4f8080b4b5e6ba92"}
    };

    public static void main(String[] args) {
        IntStream.range(0, 12).forEach(KnownAnswersTest::keys);
        // Each number is a set and how; side by side, as the high trees take their time.
        IntStream.range(0, 24).parallel().forEach(j -> signature(j % 12, -(j / 12)));
        Check.done();
    }

    private static void keys(int set) {
        HashTreeSigner x = new HashTreeSigner();
        byte[] secret = secret(set);
        int n = secret.length / 4;
        String what = "10 slhKeys " + set;
        Check.put(x, Check.RANDOM, Arrays.copyOf(secret, 3 * n));
        Check.due(what, () -> x.slhKeys(set), 4 * n);
        Check.holds(what + " SECRET", x, Check.SECRET, secret);
        Check.holds(what + " PUBLIC", x, Check.PUBLIC, Arrays.copyOfRange(secret, 2 * n, 4 * n));
    }

    private static byte[] secret(int set) {
        byte[] root = HexFormat.of().parseHex(KNOWN[set][0]);
        return PlainSlh.join(Check.bytes(3 * root.length, 37, 11 + set), root);
    }

    /** Every n bytes of a signature are one hash, so that one word of each tells them all. */
    private static void signature(int set, int how) {
        PlainSlh sizes = new PlainSlh(set);
        int n = sizes.n;
        int hashes = sizes.signature / n;
        ByteBuffer words = ByteBuffer.allocate(8 * hashes);
        for (int first = 0; first < hashes; first += WORDS) {
            HashTreeSigner x = signer(set, how, n);
            Check.due("11 slhSign " + set + " " + how, () -> x.slhSign(set, how), sizes.signature);
            for (int j = first; j < Math.min(hashes, first + WORDS); j++) {
                words.putLong(x.word(Check.PACKET, j * n + j % (n / 8) * 8));
            }
        }
        Check.due("11 slhSign " + set + " " + how + " words", sha256(words.array()), KNOWN[set][1 - how]);
    }

    private static HashTreeSigner signer(int set, int how, int n) {
        HashTreeSigner x = new HashTreeSigner();
        Check.put(x, Check.SECRET, secret(set));
        Check.put(x, Check.MESSAGE, MESSAGE);
        Check.put(x, Check.CONTEXT, CONTEXT);
        Check.put(x, Check.RANDOM, how == 0 ? NONE : Check.bytes(n, 91, 7));
        return x;
    }

    private static String sha256(byte[] row) {
        try {
            return HexFormat.of().formatHex(MessageDigest.getInstance("SHA-256").digest(row));
        } catch (NoSuchAlgorithmException e) {
            throw new IllegalStateException(e);
        }
    }
}
