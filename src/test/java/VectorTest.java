import java.util.HexFormat;

/**
 * Two of three sign the message "test", with the inputs of RFC 9591's vector for FROST(secp256k1, SHA-256). The values
 * were written down from memory, without the RFC at hand; that inputs and results agree speaks for them. The
 * signature's second half was not remembered: it is due as the reference reckons it, not as the RFC prints it.
 */
final class VectorTest {
    private static final String SECRET = "0d004150d27c3bf2a42f312683d35fac7394b1e9e318249c1bfe7f0795a83114";
    private static final String COEFFICIENT = "fbf85eadae3058ea14f19148bb72b45e4399c0b16028acaf0395c9b03c823579";

    private static final String RANDOM_1 = "7ea5ed09af19f6ff21040c07ec2d2adbd35b759da5a401d4c99dd26b82391cb2"
        + "47acab018f116020c10cb9b9abdc7ac10aae1b48ca6e36dc15acb6ec9be5cdc5";
    private static final String RANDOM_3 = "e6cc56ccbd0502b3f6f831d91e2ebd01c4de0479e0191b66895a4ffd9b68d544"
        + "7203d55eb82a5ca0d7d83674541ab55f6e76f1b85391d2c13706a89a064fd5b9";

    private VectorTest() {
    }

    public static void main(String[] args) {
        Bench x = new Bench();
        x.feed("74657374");
        x.message();
        x.feed(SECRET + COEFFICIENT);
        x.deal(2, 3);
        Check.due("group key", x.shown(0, 0),
            "02f37c34b66ced1fb51c34a90bdae006901f10625cc06c4f64663b0eae87d87b4f");
        Check.due("secret 1", x.shown(2, 1),
            "08f89ffe80ac94dcb920c26f3f46140bfc7f95b493f8310f5fc1ea2b01f4254c");
        Check.due("secret 2", x.shown(2, 2),
            "04f0feac2edcedc6ce1253b7fab8c86b856a797f44d83d82a385554e6e401984");
        Check.due("secret 3", x.shown(2, 3),
            "00e95d59dd0d46b0e303e500b62b7ccb0e555d49f5b849f5e748c071da8c0dbc");
        x.feed(RANDOM_1);
        x.commit(1);
        Check.due("commitment 1", x.shown(4, 1),
            "03c699af97d26bb4d3f05232ec5e1938c12f1e6ae97643c8f8f11c9820303f1904"
            + "02fa2aaccd51b948c9dc1a325d77226e98a5a3fe65fe9ba213761a60123040a45e");
        x.feed(RANDOM_3);
        x.commit(3);
        x.choose(5);
        Check.due("binding factor 1", x.shown(5, 1),
            "3e08fe561e075c653cbfd46908a10e7637c70c74f0a77d5fd45d1a750c739ec6");
        x.share(1);
        x.share(3);
        Check.due("gather()", x.gather(), 0);
        Check.due("R", x.output().substring(0, 66),
            "0205b6d04d3774c8929413e3c76024d54149c372d57aae62574ed74319b5ea14d0");
        Check.due("signature", x.output(), referenceSignature());
        Check.end();
    }

    private static String referenceSignature() {
        Reference y = new Reference();
        y.tape = Check.bytes("74657374");
        y.message();
        y.tape = Check.bytes(SECRET + COEFFICIENT);
        y.deal(2, 3);
        y.tape = Check.bytes(RANDOM_1);
        y.commit(1);
        y.tape = Check.bytes(RANDOM_3);
        y.commit(3);
        y.choose(5);
        y.share(1);
        y.share(3);
        y.gather();
        return HexFormat.of().formatHex(y.output);
    }
}
