/** Published examples of BIP 327: keys put together, nonces added, parts judged and made one signature. */
public final class JointVectorsTest {
  private static final String NOUGHT = Rows.repeat("00", 33);

  public static void main(String[] args) {
    jointKeys();
    sums();
    parts();
    noughtNonces();
    together();
    Check.end();
  }

  private static JointSigns signers(String... points) {
    JointSigns x = new JointSigns();
    for (int j = 0; j < points.length; j++) {
      Rows.fill(x, 0, points[j]);
      Check.due("signer " + points[j], x.signer(0), j + 1);
    }
    return x;
  }

  private static void jointKeys() {
    String[] points = {"02f9308a019258c31049344f85f89d5229b531c845836f99b08601f113bce036f9",
        "03dff1d77f2a671c5f36183726db2341be58feae1da2deced843240f7b502ba659",
        "023590a94e768f8e1815c2f24b4d80a8e3149316c3518ce7b7ad338368d038ca66"};
    jointKey("90539eede565f5d054f32cc0c220126889ed1e5d193baf15aef344fe59d4610c", points[0], points[1], points[2]);
    jointKey("6204de8b083426dc6eaf9502d27024d53fc826bf7d2012148a0575435df54b2b", points[2], points[1], points[0]);
    jointKey("b436e3bad62b8cd409969a224731c193d051162d8c5ae8b109306127da3aa935", points[0], points[0], points[0]);
    jointKey("69bc22bfa5d106306e48a20679de1d7389386124d07571d0d872686028c26a3e", points[0], points[0], points[1],
        points[1]);
  }

  private static void jointKey(String want, String... points) {
    JointSigns x = signers(points);
    Check.due("jointKey", x.jointKey(1), 32);
    Check.due("JOINT KEY of " + String.join(", ", points), Rows.read(x, 1), want);
  }

  private static void sums() {
    String a = "020151c80f435648df67a22b749cd798ce54e0321d034b92b709b567d60a42e666";
    String b = "03ff406ffd8adb9cd29877e4985014f66a59f6cd01c0e88caa8e5f3166b1f676a6";
    String sum = "035fe1873b4f2967f52fea4a06ad5a8eccbe9d0fd73068012c894e2e87ccb5804b";
    sum(a + "03ba47fbc1834437b3212e89a84d8425e7bf12e0245d98262268ebdcb385d50641",
        b + "0248c264cdd57d3c24d79990b0f865674eb62a0f9018277a95011b41bfc193b833",
        sum + "024725377345bde0e9c33af3c43c0a29a9249f2f2956fa8cfeb55c8573d0262dc8");
    sum(a + "0279be667ef9dcbbac55a06295ce870b07029bfcdb2dce28d959f2815b16f81798",
        b + "0379be667ef9dcbbac55a06295ce870b07029bfcdb2dce28d959f2815b16f81798", sum + NOUGHT);
  }

  private static void sum(String first, String second, String want) {
    JointSigns x = signers(Stage.point(5), Stage.point(7));
    tell(x, first, second);
    Check.due("session", x.session(2), 1);
    Check.due("about", x.about(1, 0), 66);
    Check.due("THE SUM OF NONCES of " + first + ", " + second, Rows.read(x, 1), want);
  }

  private static void tell(JointSigns x, String... nonces) {
    for (int j = 0; j < nonces.length; j++) {
      Rows.fill(x, 0, nonces[j]);
      Check.due("told " + nonces[j], x.told(j, 0), 1);
    }
  }

  private static final String MESSAGE = "f95466d086770e689964664219266fe5ed215c92ae20bab5c9d79addddf3c0cf";
  private static final String[] POINTS = {"03935f972da013f80ae011890fa89b67a27b7be6ccb24d3274d18b2d4067f261a9",
      "02f9308a019258c31049344f85f89d5229b531c845836f99b08601f113bce036f9",
      "02dff1d77f2a671c5f36183726db2341be58feae1da2deced843240f7b502ba661"};
  private static final String[] TOLD = {
      "0337c87821afd50a8644d820a8f3e02e499c931865c2360fb43d0a0d20dafe07ea"
          + "0287bf891d2a6deaebadc909352aa9405d1428c15f4b75f04dae642a95c2548480",
      "0279be667ef9dcbbac55a06295ce870b07029bfcdb2dce28d959f2815b16f81798"
          + "0279be667ef9dcbbac55a06295ce870b07029bfcdb2dce28d959f2815b16f81798",
      "032de2662628c90b03f5e720284eb52ff7d71f4284f627b68a853d78c78e1ffe93"
          + "03e4c5524e83ffe1493b9077cf1ca6beb2090c93d930321071ad40b2f44e599046",
      "0237c87821afd50a8644d820a8f3e02e499c931865c2360fb43d0a0d20dafe07ea"
          + "0387bf891d2a6deaebadc909352aa9405d1428c15f4b75f04dae642a95c2548480"};

  private static void parts() {
    part("012abbcb52b3016ac03ad82395a1a415c48b93def78718e62a7a90052fe224fb", 0, 0, 1, 2);
    part("9ff2f7aaa856150cc8819254218d3adeeb0535269051897724f9db3789513a52", 1, 1, 0, 2);
    part("fa23c359f6fac4e7796bb93bc9f0532a95468c539ba20ff86d7c76ed92227900", 2, 1, 2, 0);
  }

  private static void part(String part, int j, int... order) {
    JointSigns x = signers(POINTS[order[0]], POINTS[order[1]], POINTS[order[2]]);
    tell(x, TOLD[order[0]], TOLD[order[1]], TOLD[order[2]]);
    Rows.fill(x, 1, MESSAGE);
    Check.due("session", x.session(1), 1);
    Check.due("about", x.about(2, 0), 66);
    Check.due("THE SUM OF NONCES", Rows.read(x, 2), "028465fcf0bbdbcf443aabcce533d42b4b5a10966ac09a49655e8c42daab8fcd61"
        + "037496a3cc86926d452cafcfd55d25972ca1675d549310de296bff42f72eeea8c9");
    Rows.fill(x, 3, part);
    for (int other = 0; other < 3; other++) {
      Check.due("partHolds for " + other + " by " + part, x.partHolds(other, 3), other == j ? 1 : 0);
    }
    x.bend(3, 31, 1);
    Check.due("partHolds by nearly " + part, x.partHolds(j, 3), 0);
  }

  // What the two told cancels out, so that R is G.
  private static void noughtNonces() {
    JointSigns x = signers(POINTS[0], POINTS[1]);
    tell(x, TOLD[0], TOLD[3]);
    Rows.fill(x, 1, MESSAGE);
    Check.due("session", x.session(1), 1);
    x.about(2, 0);
    Check.due("THE SUM OF NONCES that is NOUGHT", Rows.read(x, 2), NOUGHT + NOUGHT);
    x.about(2, 1);
    Check.due("x of R", Rows.read(x, 2), Stage.point(1).substring(2));
    Rows.fill(x, 3, "ae386064b26105404798f75de2eb9af5eda5387b064b83d049cb7c5e08879531");
    Check.due("partHolds, R is G", x.partHolds(0, 3), 1);
  }

  private static void together() {
    JointSigns x = signers(POINTS[0], "02d2dc6f5df7c56acf38c7fa0ae7a759ae30e19b37359dfde015872324c7ef6e05");
    tell(x, "036e5ee6e28824029fea3e8a9ddd2c8483f5af98f7177c3af3cb6f47caf8d94ae9"
        + "02dba67e4a1f3680826172da15afb1a8ca85c7c5cc88900905c8dc8c328511b53e",
        "03e4f798da48a76eec1c9cc5ab7a880ffba201a5f064e627ec9cb0031d1d58fc51"
        + "03e06180315c5a522b7ec7c08b69dcd721c313c940819296d0a7ab8e8795ac1f00");
    Rows.fill(x, 1, "599c67ea410d005b9da90817cf03ed3b1c868e4da4edf00a5880b0082c237869");
    Check.due("session", x.session(1), 1);
    Rows.fill(x, 2, "b15d2cd3c3d22b04dae438ce653f6b4ecf042f42cfded7c41b64aaf9b4af53fb");
    Rows.fill(x, 3, "6193d6ac61b354e9105bbdc8937a3454a6d705b6d57322a5a472a02ce99fcb64");
    Check.due("partHolds for 0", x.partHolds(0, 2), 1);
    Check.due("partHolds for 1", x.partHolds(1, 3), 1);
    Check.due("together", x.together(4, 2), 64);
    Check.due("THE SIGNATURE", Rows.read(x, 4), "041da22223ce65c92c9a0d6c2cac828aaf1eee56304fec371ddf91ebb2b9ef09"
        + "12f1038025857fedeb3ff696f8b99fa4bb2c5812f6095a2e0004ec99ce18de1e");
    Check.due("jointKey", x.jointKey(5), 32);
    Check.due("holds", x.holds(5, 1, 4), 1);
  }
}
