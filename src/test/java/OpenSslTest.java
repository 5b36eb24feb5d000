import java.nio.ByteBuffer;
import java.nio.charset.StandardCharsets;
import java.util.Arrays;
import java.util.HexFormat;

/** Certificates and a list that OpenSSL 3 wrote and judged, so that not all texts are made by Maker. */
public final class OpenSslTest {
    private static final String ROOT = "3082032f30820217a003020102021476bc78034f130b702584d75a2a58f79c62d5fdf5300d06092a864886f70d01010b0500302e"
        + "310b3009060355040613024445310d300b060355040a0c04526f6f743110300e06035504030c07526f6f74204341301e170d3236"
        + "313131363036323234395a170d3336313131333036323234395a302e310b3009060355040613024445310d300b060355040a0c04"
        + "526f6f743110300e06035504030c07526f6f7420434130820122300d06092a864886f70d01010105000382010f003082010a0282"
        + "010100abef5faf979f6f0ea1393df9f8353cf38866cb62d7224b2e47c493e60c288a9bde7d5acd54ab05c810f0ea535f67b3a03e"
        + "99ecb7f57141752430cc38791d644a835753cd783a65f1d22009d0508b13e68894454155797e817dff60556ff523702f313ba043"
        + "ed2da28de551907b0a32f2b6d1457a8a1eede0d7c1c052ffbbdbe9650b121186a20b805798c6c1b3aab07beda0c6bd2526060d57"
        + "3c572abc80cf5d50fb111c31775cd8b4a9996d704ebd368c2e9e66861393dadc43e1e48e72378aa43a13dbc5b2015455c22e3310"
        + "b999825f4d0dc5da4bf0db7da1fa4b0bbdc25d09e4fcc5e0644569b216bdbf1ef51e288b87aec01da31ca07d71560d50d9b2c502"
        + "03010001a345304330120603551d130101ff040830060101ff020101300e0603551d0f0101ff040403020106301d0603551d0e04"
        + "160414d0a73a345cf89f438a37a0b78fcf6ad747c4c892300d06092a864886f70d01010b050003820101000c331080491a8366f1"
        + "228d46aacb91c1470a3d352d424d0ea25915f347226cbf4b52abdaf0e5c5ac55f6ad73ebdc3198660933e9567faf3c4022ee5419"
        + "6e76d0d2a3d6bcb09641f4ab165fc8262e19c370043878bbc7e88c4b2a3bd3eb064976048fc92fba260f4e5acaf76a4bacde1f89"
        + "973f297a19a9207cff63ce5cd4ee6a80efe06f5fd6be74e34c94b7d0c84975ceb1d2027a80d146885020b44079a32e6eaa92b818"
        + "599244fbedb18f2c8f52f2085e93fac830c61edc9b29abf3f4a830f4f61f9079321c8c78bb55c2994a541ad70b605c8454ead7b4"
        + "26a9c4416193f5fc9fbb7d618d1e770bb30f9dde37bca49cdcf64ef1a61353316f35822cedd88a";
    private static final String MIDDLE = "308202ef308201d7a003020102020600f123456789300d06092a864886f70d01010b0500302e310b300906035504061302444531"
        + "0d300b060355040a0c04526f6f743110300e06035504030c07526f6f74204341301e170d3236313131363036323234395a170d32"
        + "39303831323036323234395a302c310b3009060355040613024445310c300a060355040a0c034d6964310f300d06035504030c06"
        + "4d696420434130819f300d06092a864886f70d010101050003818d0030818902818100a1812d6fc8976901b37e02b4dec01f6a05"
        + "5693d4095a432cbbe07677ce9b8fa946518ce7b40f64ccb42af4831f3c5e5d774e4a827f0beb659c78cd6c0af22f48e5c95d8bff"
        + "922cafae912257379076f859358f2e6b76ba6b8c1388878ccc6521fd4bd94b2af36c8c03230466b8919acf27905db362bf549bc9"
        + "817398be2b6e070203010001a38198308195300f0603551d130101ff040530030101ff300e0603551d0f0101ff04040302010630"
        + "1d0603551d0e041604140e89218ff2cc64df528c3967fc710cbe530fb2af301f0603551d23041830168014d0a73a345cf89f438a"
        + "37a0b78fcf6ad747c4c89230320603551d1e0101ff04283026a00f300d820b6578616d706c652e636f6da1133011820f6261642e"
        + "6578616d706c652e636f6d300d06092a864886f70d01010b050003820101002e323a04e0eb9260bbb277c05e2bd98d0fd07d2707"
        + "72fdc82d6e4fc42848c2f6622bc6d01bd25d205ea25d7d880489c411f1d239bd7dd4f51776b80b8decd4bee3b6ab0c5c9d71b01d"
        + "fbe85e6015e0f9c2f3d0eca6bb503e219258f1b6cd52ad5f18f1ad0a933e00eb86629d791d3cc240cd05e31ef9695598d1caa263"
        + "c4aa22c028c3225ebf7fe09bb08cb47c5bc23bd8167970be8c9bcf30734ef73bb8a63cf3f453e6c2eb8b8354c7fd8fe85da4c192"
        + "34bc0cddca6a067150ac6c0fb38c4ecffbca92baac0daccc96967db33cfa66a9833565c0cfc56e7bce510c12fc23853f60457fb2"
        + "69f4224d5f3b5eec3926b167c1fb7b1027aa49d34538f487f6ecb5";
    private static final String LEAF = "3082022b30820194a00302010202014d300d06092a864886f70d01010b0500302c310b3009060355040613024445310c300a0603"
        + "55040a0c034d6964310f300d06035504030c064d6964204341301e170d3236313131363036323234395a170d3239303831323036"
        + "323234395a300f310d300b06035504030c046c65616630819f300d06092a864886f70d010101050003818d0030818902818100a5"
        + "af8a31cdf91d08a99213628585614f240c00753e9dd29203023d6c296b5f37699b81a7bd9637c79d6433645c82153bec914197ca"
        + "a457502f50118b729c2492fae7ed3ddeffe304c3e6dd69421537c0f3bb485f15e33d2b1c060f3ad48990d3e72f919b652a63829c"
        + "97cd5f7958756091baffd0ced128e3393af9e455ed310f0203010001a37a307830360603551d11042f302d820f7777772e657861"
        + "6d706c652e636f6d820d2a2e6578616d706c652e636f6d87040102030481056140622e63301f0603551d230418301680140e8921"
        + "8ff2cc64df528c3967fc710cbe530fb2af301d0603551d0e04160414a322d3693666820ddb2eee262d7489847a309b0a300d0609"
        + "2a864886f70d01010b0500038181000455345f1ab956db0c9acefde0db7d90bf34ce687ff00b68d6fb2dd1dbde838ff47843df5a"
        + "ffbc16d562112e9c272395d8c348a7dfafe8abb6461b04fbe9db4dd46d6acee3f077fffb90f1eef381d6a455c3e0f85557858902"
        + "35d87a58470ffa2bd477b1ad5ca9f555ee28aa1601f0df013c8e91afd21d36c088bde9a3817a2a";
    private static final String FORBIDDEN = "3082021030820179a00302010202014e300d06092a864886f70d01010b0500302c310b3009060355040613024445310c300a0603"
        + "55040a0c034d6964310f300d06035504030c064d6964204341301e170d3236313131363036323234395a170d3239303831323036"
        + "323234395a300e310c300a06035504030c0362616430819f300d06092a864886f70d010101050003818d0030818902818100a105"
        + "e3e75c72a8296d600822a2fdfc94c1851164102abd36abd4e8c4d8785563fcf2e629dec27d33bfc467bd3d49cfa8b5b14c5ed5fa"
        + "21296fd962d56b5c3fb4f376cb4b85dc07f0061a02de023aa914efa828a17089596e0d477f17c600c4676b3d1d080175ab104d77"
        + "3e2e8fb82d359401c666eb3fe7f1bf4676807500cf1d0203010001a360305e301c0603551d11041530138211782e6261642e6578"
        + "616d706c652e636f6d301f0603551d230418301680140e89218ff2cc64df528c3967fc710cbe530fb2af301d0603551d0e041604"
        + "145a7ffdecae4f624986bb1409caf5c05ba4060512300d06092a864886f70d01010b0500038181002dfe853b31cc6f476fbfaaa4"
        + "c520cddae5b59d426dc56dfcb9f73d2d2572cf882aa6ad56e5e5339e2c66af2f4931dc389c8c654f6c492f4add6020fca0ae83d4"
        + "7f2dfbaf455597aaa137730c3608c7c62b6e77a82a5ea4acd0fb4ff5a63571295596f00bb516dd8ad5ed2e4e81595b3c583786f8"
        + "7a4e909b961e604dedb6610a";
    private static final String GONE = "3082022b30820194a00302010202014f300d06092a864886f70d01010b0500302c310b3009060355040613024445310c300a0603"
        + "55040a0c034d6964310f300d06035504030c064d6964204341301e170d3236313131363036323234395a170d3239303831323036"
        + "323234395a300f310d300b06035504030c04676f6e6530819f300d06092a864886f70d010101050003818d0030818902818100e6"
        + "e1080e3d02ff7247d103f712d13ff64518041c2a9acdf543768c6e85f833db151d842a7912fb83b85a69a03f8dae053d24bae599"
        + "9f34bb9ab770fea5d11221a2bc7a09eb89923f92436ffb4ab321f1e2f2daf18533199d3feac027a753158164de93786f2b29f67e"
        + "e0e227c0f8a6843d5611b6a5d796865e2ae5a28d8128e90203010001a37a307830360603551d11042f302d820f7777772e657861"
        + "6d706c652e636f6d820d2a2e6578616d706c652e636f6d87040102030481056140622e63301f0603551d230418301680140e8921"
        + "8ff2cc64df528c3967fc710cbe530fb2af301d0603551d0e0416041409f0247e49562a9da559847917e6abe397e34bfe300d0609"
        + "2a864886f70d01010b0500038181008a0f5a9156b980b310659a51cc46880f6d2d6aac236de302863b03d4fd63ac0d06ef2aafa9"
        + "694b710c8aaed87d361c5dfa7bcdaae733937fe8eea0c9ba7b8673ea6746ddca183d8e54ddb74371f4a7fbefc6cc19a56215cab2"
        + "0df603cdcb712b7b2194ddc17428dc7a2e5db2d9d84d7053ca735c7711cf12e7f9f9aaed24cfdd";
    private static final String LIST = "30820128308192020101300d06092a864886f70d01010b0500302c310b3009060355040613024445310c300a060355040a0c034d"
        + "6964310f300d06035504030c064d6964204341170d3236313131363036323234395a170d3236313231363036323234395a302230"
        + "2002014f170d3235303130313030303030305a300c300a0603551d1504030a0101a00e300c300a0603551d140403020101300d06"
        + "092a864886f70d01010b050003818100403f8569ba488ac3b8ee36c69404a8132ddff12953ebe531b3bbebdb2e067b6aca7fc53b"
        + "efa65f6945a4af657b5205b9f4a8d07bb9b5ca1a8fff749c43d5e5ae8d673f35582e15df366a53524a8e696e73fb18a0d654826e"
        + "78a0934098d20956dc80762bb0d233c883d86508c657fa9b479f2f6acc7c38b90eb55c28678eba89";
    private static final long MADE = 1794810169L;
    private static final long DAY = 86400;
    private static final Check CHECK = new Check();

    public static void main(String[] args) {
        Store store = new Store();
        int root = store.certificate(text(ROOT), true);
        int middle = store.certificate(text(MIDDLE), false);
        int leaf = store.certificate(text(LEAF), false);
        int forbidden = store.certificate(text(FORBIDDEN), false);
        int gone = store.certificate(text(GONE), false);
        TrustChain x = store.x;
        parts(x, root, MADE, MADE + 3650 * DAY, 2048, 65537, 1, 1, 96, 0, 3, 3, 0, 20);
        parts(x, middle, MADE, MADE + 1000 * DAY, 1024, 65537, 1, -1, 96, 0, 3, 5, 0, 6);
        parts(x, leaf, MADE, MADE + 1000 * DAY, 1024, 65537, 0, -1, -1, 2, 1, 3, 0, 1);
        parts(x, forbidden, MADE, MADE + 1000 * DAY, 1024, 65537, 0, -1, -1, 1, 1, 3, 0, 1);
        CHECK.same("the verdict before there is a list", x.validate(gone, MADE, 3, false), 0);
        int list = store.list(text(LIST));
        for (int what = 0; what < 4; what++) {
            CHECK.same("listPart " + what, x.listPart(list, what), new long[] {MADE, MADE + 30 * DAY, 1, 0}[what]);
        }
        signed(x, root, middle, leaf, list);
        CHECK.same("the leaf", x.validate(leaf, MADE, 3, false), 0);
        CHECK.same("the leaf, too deep", x.validate(leaf, MADE, 2, false), 10);
        CHECK.same("the leaf, too early", x.validate(leaf, MADE - 1, 3, false), 2);
        CHECK.same("the one whose name is excluded", x.validate(forbidden, MADE, 3, false), 5);
        CHECK.same("the one that is revoked", x.validate(gone, MADE, 3, false), 3);
        CHECK.same("the one that is revoked, behind the list's last day", x.validate(gone, MADE + 31 * DAY, 3, false), 0);
        CHECK.same("of the middle one nothing is known", x.validate(leaf, MADE, 3, true), 4);
        covers(x, leaf, "www.example.com", true);
        covers(x, leaf, "Any.Example.com", true);
        covers(x, leaf, "a.b.example.com", false);
        covers(x, leaf, "example.com", false);
        CHECK.end();
    }

    private static byte[] text(String hex) {
        return HexFormat.of().parseHex(hex);
    }

    private static void parts(TrustChain x, int c, long... due) {
        for (int what = 0; what < due.length; what++) {
            CHECK.same("part " + what + " of " + c, x.part(c, what), due[what]);
        }
    }

    private static void signed(TrustChain x, int root, int middle, int leaf, int list) {
        CHECK.yes("the root by itself", x.signed(false, root, root));
        CHECK.yes("the middle one by the root", x.signed(false, middle, root));
        CHECK.yes("the leaf by the middle one", x.signed(false, leaf, middle));
        CHECK.yes("the list by the middle one", x.signed(true, list, middle));
        CHECK.no("the leaf by the root", x.signed(false, leaf, root));
        CHECK.no("the list by the leaf", x.signed(true, list, leaf));
    }

    private static void covers(TrustChain x, int c, String host, boolean due) {
        ByteBuffer four = ByteBuffer.wrap(Arrays.copyOf(host.getBytes(StandardCharsets.US_ASCII), 32));
        boolean got = x.covers(c, four.getLong(), four.getLong(), four.getLong(), four.getLong());
        CHECK.same(host, got ? 1 : 0, due ? 1 : 0);
    }
}
