public final class ModelTests {
    public static void main(String[] args) {
        Due.finish();
    }
}
