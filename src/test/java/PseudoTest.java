public final class PseudoTest {
    public static void main(String[] args) {
        if (new TriangleSets().pseudo(7, 2) != 15032385536L) System.exit(1);
    }
}
