/** Promises 2 to 5. */
final class FieldTest {
    public static void main(String[] args) {
        OssuaryVault x = new OssuaryVault();
        products(x);
        inverses(x);
        powers(x);
        coefficients(x);
        Due.end("FieldTest");
    }

    private static void products(OssuaryVault x) {
        Due.is("P2 product(2, 128)", 29, () -> x.product(2, 128));
        Due.is("P2 product(255, 255)", slow(255, 255), () -> x.product(255, 255));
        for (int a = 0; a < 256; a++) {
            for (int b = 0; b < 256; b++) {
                int first = a;
                int second = b;
                Due.is("P2 product(" + a + ", " + b + ")", slow(a, b),
                        () -> x.product(first, second));
            }
        }
        int[] wrong = {-1, 256, Integer.MIN_VALUE, Integer.MAX_VALUE};
        for (int w : wrong) {
            Due.argument("P2 product(" + w + ", 0)", () -> x.product(w, 0));
            Due.argument("P2 product(0, " + w + ")", () -> x.product(0, w));
            Due.argument("P2 product(1, " + w + ")", () -> x.product(1, w));
        }
    }

    private static void inverses(OssuaryVault x) {
        Due.is("P3 inverse(1)", 1, () -> x.inverse(1));
        Due.is("P3 inverse(2)", 142, () -> x.inverse(2));
        for (int i = 1; i < 256; i++) {
            int a = i;
            Due.is("P3 inverse(" + a + ") times it", 1, () -> slow(a, x.inverse(a)));
        }
        int[] wrong = {0, -1, 256, Integer.MIN_VALUE, Integer.MAX_VALUE};
        for (int w : wrong) {
            Due.argument("P3 inverse(" + w + ")", () -> x.inverse(w));
        }
    }

    private static void powers(OssuaryVault x) {
        Due.is("P4 power(0, 0)", 1, () -> x.power(0, 0));
        Due.is("P4 power(255, 0)", 1, () -> x.power(255, 0));
        Due.is("P4 power(2, 8)", 29, () -> x.power(2, 8));
        Due.is("P4 power(0, 1000)", 0, () -> x.power(0, 1000));
        int[] bases = {0, 1, 2, 3, 29, 128, 254, 255};
        for (int a : bases) {
            int want = 1;
            for (int i = 0; i <= 1000; i++) {
                int n = i;
                Due.is("P4 power(" + a + ", " + n + ")", want, () -> x.power(a, n));
                want = slow(want, a);
            }
        }
        int[] wrong = {-1, 256, Integer.MIN_VALUE, Integer.MAX_VALUE};
        for (int w : wrong) {
            Due.argument("P4 power(" + w + ", 0)", () -> x.power(w, 0));
        }
        Due.argument("P4 power(1, -1)", () -> x.power(1, -1));
        Due.argument("P4 power(1, 1001)", () -> x.power(1, 1001));
        Due.argument("P4 power(0, MIN)", () -> x.power(0, Integer.MIN_VALUE));
    }

    private static void coefficients(OssuaryVault x) {
        for (int i = 0; i < 6; i++) {
            for (int k = 0; k < 10; k++) {
                int j = i;
                int d = k;
                Due.is("P5 coefficient(" + j + ", " + d + ") by what it is the inverse of", 1,
                        () -> slow((128 + j) ^ d, x.coefficient(j, d)));
            }
        }
        Due.index("P5 coefficient(-1, 0)", () -> x.coefficient(-1, 0));
        Due.index("P5 coefficient(6, 0)", () -> x.coefficient(6, 0));
        Due.index("P5 coefficient(0, -1)", () -> x.coefficient(0, -1));
        Due.index("P5 coefficient(0, 10)", () -> x.coefficient(0, 10));
        Due.index("P5 coefficient(MIN, MAX)",
                () -> x.coefficient(Integer.MIN_VALUE, Integer.MAX_VALUE));
    }

    /** As the document tells it: the product of the polynomials first, then its remainder. */
    private static int slow(int a, int b) {
        int product = 0;
        for (int k = 0; k < 8; k++) {
            product ^= (b >> k & 1) == 1 ? a << k : 0;
        }
        for (int k = 14; k >= 8; k--) {
            product ^= (product >> k & 1) == 1 ? 285 << (k - 8) : 0;
        }
        return product;
    }
}
