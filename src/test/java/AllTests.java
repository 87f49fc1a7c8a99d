/** Runs every test of the project; the argument is the path of the class's source. */
public final class AllTests {
    private AllTests() {
    }

    public static void main(String[] args) throws Exception {
        ModelTest.run();
        System.exit(Due.close());
    }
}
