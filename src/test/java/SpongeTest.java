import java.security.GeneralSecurityException;
import java.security.MessageDigest;
import java.util.Arrays;
import java.util.HexFormat;

/** Holds the tests' own SPONGE against the Java library, so that it may be held against the class. */
public final class SpongeTest {
    public static void main(String[] args) throws GeneralSecurityException {
        for (int count = 0; count < 300; count++) {
            byte[] x = Check.bytes(count, 73, count);
            byte[] want = MessageDigest.getInstance("SHA3-256").digest(x);
            Check.due("SHA3-256 of " + count, Arrays.equals(PlainSlh.sponge(136, 6, x, 32), want), true);
        }
        String empty = HexFormat.of().formatHex(PlainSlh.sponge(136, 31, new byte[0], 32));
        Check.due("SHAKE256 of nothing", empty,
                "46b9dd2b0ba88d13233b3feb743eeb243fcd52ea62b81b82b50c27646ed5762f");
        Check.done();
    }
}
