/** Published examples of SHA-256 and of BIP 340. */
public final class VectorsTest {
  private static final String ZEROS = Rows.repeat("00", 32);
  private static final String ONES = Rows.repeat("ff", 32);

  public static void main(String[] args) {
    digests();
    signatures();
    verdicts();
    Check.end();
  }

  private static void digests() {
    digest("", "e3b0c44298fc1c149afbf4c8996fb92427ae41e4649b934ca495991b7852b855");
    digest("616263", "ba7816bf8f01cfea414140de5dae2223b00361a396177a9cb410ff61f20015ad");
    // 56 bytes: the length does not fit behind them in one block.
    digest("6162636462636465636465666465666765666768666768696768696a68696a6b696a6b6c6a6b6c6d6b6c6d6e6c6d6e6f6d6e6f706e6f7071",
        "248d6a61d20638b8e5c026930c3e6039a33ce45964ff2167f6ecedd419db06c1");
  }

  private static void digest(String bytes, String want) {
    JointSigns x = new JointSigns();
    Rows.fill(x, 1, bytes);
    Check.due("hash", x.hash(0, -1, 1), 32);
    Check.due("hash of " + bytes, Rows.read(x, 0), want);
  }

  private static void signatures() {
    signature(Rows.number(3), "f9308a019258c31049344f85f89d5229b531c845836f99b08601f113bce036f9", ZEROS, ZEROS,
        "e907831f80848d1069a5371b402410364bdf1c5f8307b0084c55f1ce2dca8215"
            + "25f66a4a85ea8b71e482a74f382d2ce5ebeee8fdb2172f477df4900d310536c0");
    signature("b7e151628aed2a6abf7158809cf4f3c762e7160f38b4da56a784d9045190cfef",
        "dff1d77f2a671c5f36183726db2341be58feae1da2deced843240f7b502ba659", Rows.number(1),
        "243f6a8885a308d313198a2e03707344a4093822299f31d0082efa98ec4e6c89",
        "6896bd60eeae296db48a229ff71dfe071bde413e6d43f917dc8dcf8c78de3341"
            + "8906d11ac976abccb20b091292bff4ea897efcb639ea871cfa95f6de339e4b0a");
    signature("c90fdaa22168c234c4c6628b80dc1cd129024e088a67cc74020bbea63b14e5c9",
        "dd308afec5777e13121fa72b9cc1b7cc0139715309b086c960e18fd969774eb8",
        "c87aa53824b4d7ae2eb035a2b5bbbccc080e76cdc6d1692c4b0b62d798e6d906",
        "7e2d58d8b3bcdf1abadec7829054f90dda9805aab56c77333024b9d0a508b75c",
        "5831aaeed7b44bb74e5eab94ba9d4294c49bcf2a60728d8b4c200f50dd313c1b"
            + "ab745879a5ad954a72c45a91c3a51d3c7adea98d82f8481e0e1e03674a6f3fb7");
    signature("0b432b2677937381aef05bb02a66ecd012773062cf3fa2549e44f58ed2401710",
        "25d1dff95105f5253c4022f628a996ad3a0d95fbf21d468a1b33f8c160d8f517", ONES, ONES,
        "7eb0509757e246f19449885651611cb965ecc1a187dd51b64fda1edc9637d5ec"
            + "97582b9cb13db3933705b32ba982af5af25fd78881ebb32771fc5922efc66ea3");
    signature(Rows.repeat("0340", 16), "778caa53b4393ac467774d09497a87224bf9fab6f6e68b23086497324d6fd117", ZEROS, "",
        "71535db165ecd9fbbc046e5ffaea61186bb6ad436732fccc25291a55895464cf"
            + "6069ce26bf03466228f19a3a62db8a649f2d560fac652827d1af0574e427ab63");
  }

  private static void signature(String secret, String key, String a, String m, String want) {
    JointSigns x = new JointSigns();
    Rows.fill(x, 0, secret);
    Rows.fill(x, 1, m);
    Rows.fill(x, 2, a);
    Check.due("key", x.key(3, 0, 0), 32);
    Check.due("sign", x.sign(4, 0, 1, 2), 64);
    Check.due("KEY of " + secret, Rows.read(x, 3), key);
    Check.due("SIGNATURE by " + secret, Rows.read(x, 4), want);
    Check.due("holds", x.holds(3, 1, 4), 1);
  }

  private static void verdicts() {
    String m = "243f6a8885a308d313198a2e03707344a4093822299f31d0082efa98ec4e6c89";
    String key = "dff1d77f2a671c5f36183726db2341be58feae1da2deced843240f7b502ba659";
    verdict("d69c3509bb99e412e68b0fe8544e72837dfa30746d8be2aa65975f29d22dc7b9",
        "4df3c3f68fcc83b27e9d42c90431a72499f17875c81a599b566c9889b9696703",
        "00000000000000000000003b78ce563f89a0ed9414f5aa28ad0d96d6795f9c63"
            + "76afb1548af603b3eb45c9f8207dee1060cb71c04e80f593060b07d28308d7f4", 1, 2);
    // a key that is no x of the curve, and one that is not below P
    verdict("eefdea4cdb677750a420fee807eacf21eb9898ae79b9768766e4faa04a2d4a34", m, Rows.repeat("01", 64), 0, 0);
    verdict("fffffffffffffffffffffffffffffffffffffffffffffffffffffffefffffc30", m, Rows.repeat("01", 64), 0, 0);
    // r that is P, s that is N
    verdict(key, m, "fffffffffffffffffffffffffffffffffffffffffffffffffffffffefffffc2f" + Rows.repeat("01", 32), 0, 0);
    verdict(key, m, Rows.repeat("01", 32) + "fffffffffffffffffffffffffffffffebaaedce6af48a03bbfd25e8cd0364141", 0, 0);
    // r one less than P, s one less than N: judged, though no such point is there
    verdict(key, m, "fffffffffffffffffffffffffffffffffffffffffffffffffffffffefffffc2e"
        + "fffffffffffffffffffffffffffffffebaaedce6af48a03bbfd25e8cd0364140", 0, 2);
  }

  private static void verdict(String key, String m, String signature, int want, int work) {
    JointSigns x = new JointSigns();
    Rows.fill(x, 0, key);
    Rows.fill(x, 1, m);
    Rows.fill(x, 2, signature);
    Check.due("holds by " + key, x.holds(0, 1, 2), want);
    Check.due("count(5)", x.count(5), work);
  }
}
