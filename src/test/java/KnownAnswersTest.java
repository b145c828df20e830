/**
 * Promises 7 to 12 and 15 to 18: whole keys and signatures against answers that were
 * made outside of Java, by a program over another library's SHA-256, HMAC and SHAKE256.
 */
public final class KnownAnswersTest {
    private static final int SLICE = 256;

    /**
     * THE SHAPE, how long the text is, the SEEDS, the rand of signWith; then what is due: the ROOT,
     * for sign() and for signWith() each the SHA-256 of THE SIGNATURE and the numbers of index(),
     * a LEAF's layer, tree and u, that LEAF.
     */
    private static final String[][] ANSWERS = {
        {
            "0 4 1 1 1 1",
            "0",
            "38b4e652e44da7f2370d9e260e271365 50a4a3a6d07f5c0c332f8b1224083fd2 2b902f8911e81818f8c99d5d5d983195",
            "7504d90e945de2e8f54ee781cc75f636",
            "97f6cab4",
            "e508f90d0c6f3c2b14456e1f91b3efe83d387bf1b2382bfdedee67caf4b8bea0",
            "0 1 1",
            "6ff73b91e9a5bdb0b64d3291c55424e20e7faefc7d7a7277666525063da66306",
            "0 0 1",
            "0 0 0",
            "9f21a042",
        },
        {
            "1 4 1 1 1 1",
            "1",
            "5a67036f9b540d6b8f0be21124179c3d d9f73817ce6e118d264aad6cb6dd210f af94acd3cf92c190237cb11f5d108cf2",
            "5930263938b370a1b5769fa0f1483f95",
            "e67c0130",
            "64ca5954e72d3e69c3d8c42737dda4b0b248f54428b414756fe6f55527d2f46a",
            "0 1 0",
            "74f699513a87e46db3655b7f867f74a7baad23fbf47e15b4fdbd847f2e7732f0",
            "0 1 1",
            "0 0 1",
            "2a7702a5",
        },
        {
            "0 16 2 2 4 6",
            "600",
            "9ce2b10cccdaebf990d19838b0d7ec0b 3e97818ecb96c4dbadbe172296d5234a 42b24c6ba4e6ed24ec636a8ac0a1271e",
            "5866279238aaf84e58056d8f2fa8edd0",
            "39cbc7aba4ca871f0022e772bed2340a",
            "696b1bf54d624b478b12e7c220822ca7f3b651001cb87cc31fcad6ae0b0461cc",
            "3 3 2 5 10 10 5 12",
            "b02f7cde42fdfd065c1a967152924f1df22beb51fbdcd9e1f3d2ab0248bc5477",
            "3 3 8 5 8 13 0 15",
            "0 0 1",
            "1d20abc759d98dabfa50c05cbbc20ea8",
        },
        {
            "1 16 2 2 4 6",
            "600",
            "0372555fd235f11829fb388c22e44cb6 37f01210c3707a90b405420fb169779e dfb5b9342405157f54b12eae62d11e88",
            "7eb0766d1877f8c6eff26b5010af3177",
            "435a9ac57d3a2d85c6d74886f7e2c9e4",
            "1af5421ab5bf76bed5aac38cafb560b7b58b09dda4f97d860bd59434bcccc299",
            "3 1 6 15 7 2 15 4",
            "19a8b4d8b141b282a8ccc6ae0ed5cfc26bd8e02a61153f3636810eaabfe8d517",
            "0 0 15 9 1 6 1 4",
            "1 0 2",
            "202d0a14b237dd3d696f8b34ff9b45bb",
        },
        {
            "0 8 2 1 3 5",
            "55",
            "ad87bd4c77e2983f27745ccb9a31052e 944cf1b220eaa2c7fb1b7d3e3f73f414 af6e0d935520dd4c2147738606f2bf7e",
            "c70209e0cd05ee5720edbcba3acce672",
            "517968b8e91d0c00",
            "128e451822cf6e309fbb1cf8230464bddb5ecd5c7eafbad80787ee207c1009ec",
            "0 0 2 2 2 6 6",
            "94c24d244a4c916019b13fadfa8bb5d78e1f22a7b3a0d7e51741c820349796d2",
            "0 3 1 0 5 0 6",
            "0 0 0",
            "3cf789f0f69222af",
        },
        {
            "1 8 1 2 2 3",
            "20",
            "108f391ebc070e83e8180a6bd4f43a2a fffcd3c12ef890575575e826e2cbeaee 82af2c7d696cf46b977c090af4e146f6",
            "d03110ab86efde139eeabac37a0dde8e",
            "b1308d87c1bb5791",
            "450dc9de5a6558a9e82791a47f8adfd571256dbd30c424d1bc3c643630f10352",
            "0 0 1 3 1",
            "f052626ba936c5521b7f24c563379a0a74ced95ad8b98e4f8ce8579c62a82780",
            "1 0 0 3 2",
            "1 0 1",
            "94c8890c1f9af679",
        },
        {
            "0 12 1 2 3 6",
            "0",
            "8fe0feb17b4aa559cd9f28984b14267f 1b037494dd1c01cc6adfc974d1729a11 fe2008d737e8f517d69ed6f181bd1a45",
            "29825e79455971b21ae105aab2d6a310",
            "88416e03f1bc64dca2998f61",
            "a411d5d1a9198fd168ceedc250b2f483a4fc3a8db4d81ab80d179ac058fb2f73",
            "1 0 2 6 3 0 7 4",
            "980c5224607f64494f9af13d37a1f226f6dcf1b8c426e46ff8893157e85b546f",
            "1 0 1 3 6 4 6 4",
            "0 1 1",
            "ef554f3b595b3dc1d329e893",
        },
        {
            "1 12 2 1 4 2",
            "135",
            "af40db4852eb74b74f3ac362881215e3 1ed32cab3d56d55807afc6053558cef0 92a9317629b2ff5ae637052b3839659c",
            "78fdf91d0aaa627e00a3170ffb76dc37",
            "18bdde2d1dfdb058c22adb95",
            "0a39b10daba9e8078c740460d0434b9c7ecf8b6796e3e1cdce14890c8f6fb262",
            "0 0 15 13",
            "8414060de62ed42435f4d03e13178b94ed6c39dfc2917a6a519a7b3578487b75",
            "0 3 13 9",
            "0 0 1",
            "69fd3226c88ee15d885ee7e2",
        },
        {
            "0 12 2 2 1 6",
            "64",
            "e66105bd83af633f509fdc659c471564 d277b4eab08215df3c101b7fe7f9a014 1afb962a02f2fd727628d2661118a88c",
            "1f772047597125e27e970d23d952bcd1",
            "c56821e89bf0afed8de145e4",
            "af46cde3d065083a05aad501b7ac9eff082a66e297eef2c4d8efeb0bc79a4281",
            "1 1 1 0 0 1 0 0",
            "3cb65c71da3c5cc9778e861a63bbb4aa108f00ab1f2378b27a4b7c06edee751f",
            "3 2 1 1 0 1 0 0",
            "1 0 2",
            "39b12035286ee262eb6c2cd8",
        },
        {
            "1 16 1 1 3 4",
            "136",
            "3a6ad6b44ddf506a4a1b89fc406dd85b 24f0c6ae05765ae2c99964615ddf2df5 ff87123bbdc0a2262a7c3e15f09a1c2d",
            "bd7dbb267686613b898c94a8eae9bb3b",
            "f08f802fd667f0e1eaee68c96536f767",
            "5fd0bd65dfb5e960e85f997206ede75ffc3d46ac0723acd768be87c51f06cb1a",
            "0 0 0 0 1 6",
            "077471a0552c7c897b92cea5ccdcd279c8cca3e33349ba4fae554d18797ddd37",
            "0 1 0 7 1 1",
            "0 0 1",
            "506faad7fd6d575ef5108e42d9483a1e",
        },
        {
            "0 16 2 1 2 2",
            "599",
            "2e8cc2d45fccd096cf05ae2ec55c4343 bc9c2c4859470c014e0c4b25ef13406b 01f4da88ed66875ef7aa1c9c11bdfb90",
            "f5889051c039fef3263620202d31c4b0",
            "73654209afd01893ba9afc2fe1146c90",
            "ca7db769111413d4630833928e87753e83c903d0c1a817918ae1f9366f3b90e9",
            "0 3 3 1",
            "c55c36d09f0b95a8a6ff542dc27b2b505bb68b057924dbc4daefe6122bdb9098",
            "0 3 1 3",
            "0 0 3",
            "9509af1ded06a40db7a4b5c117d92346",
        },
        {
            "1 4 2 2 1 6",
            "580",
            "8fcb47e63483f8de9114acc7b6d0aef3 9318e0df7f2b3aaea36941ccc86e2c8f a3f1726423e4e765047a2366ad0ce564",
            "2c68811a5c14457b0bcd60a286688366",
            "f10f2fe5",
            "409e220d61e3b13e3fd9e2fd6d3a673ff75871560d7b1f83f76c4aeb7d2947ed",
            "1 0 0 0 1 0 0 1",
            "81fe57019102a13af7261d431c3d6184f656a917162ba06d5da7c838212078a6",
            "1 0 1 1 0 0 0 1",
            "0 1 0",
            "a1d70ec1",
        },
    };

    private final Due due = new Due();

    public static void main(String[] args) {
        KnownAnswersTest test = new KnownAnswersTest();
        for (String[] row : ANSWERS) {
            test.holdKey(row);
            test.holdSignature(row, false, row[5], row[6]);
            test.holdSignature(row, true, row[7], row[8]);
        }
        test.due.end();
    }

    private static HashSigner withKey(String[] row) {
        HashSigner x = new HashSigner();
        Help.shape(x, row[0]);
        Help.seeds(x, row[2]);
        Help.feedText(x, Integer.parseInt(row[1]));
        x.key();
        return x;
    }

    private static HashSigner withSignature(String[] row, boolean told) {
        HashSigner x = withKey(row);
        if (told) {
            x.signWith(Help.high(row[3]), Help.low(row[3]));
        } else {
            x.sign();
        }
        return x;
    }

    private void holdKey(String[] row) {
        HashSigner x = withKey(row);
        int[] place = Help.numbers(row[9]);
        due.is("root of " + row[0], Help.root(x), row[4]);
        due.is("leaf " + row[9] + " of " + row[0], Help.leaf(x, place[0], place[1], place[2]), row[10]);
    }

    private void holdSignature(String[] row, boolean told, String hashed, String numbers) {
        String name = (told ? "signWith" : "sign") + " of " + row[0];
        HashSigner x = withSignature(row, told);
        due.is(name + ": index", Help.index(x), numbers);
        due.is(name + ": verify()", x.verify(), 1);
        due.is(name + ": ledTo", Help.led(x), row[4]);
        due.is(name + ": index behind verify()", Help.index(x), numbers);
        due.is(name + ": the bytes", Help.hex(Help.sha256(whole(row, told))), hashed);
    }

    private static byte[] whole(String[] row, boolean told) {
        byte[] all = new byte[withSignature(row, told).told(1)];
        for (int from = 0; from < all.length; from += SLICE) {
            int to = Math.min(from + SLICE, all.length);
            byte[] slice = Help.signatureSlice(withSignature(row, told), from, to);
            System.arraycopy(slice, 0, all, from, slice.length);
        }
        return all;
    }
}
