/** Runs every test of the project; the argument is the path of the class's source. */
public final class AllTests {
    private AllTests() {
    }

    public static void main(String[] args) throws Exception {
        ThingsTest.run();
        ChancesTest.run();
        ReelTest.run();
        WalkersTest.run();
        StateTest.run();
        EdgesTest.run();
        RefusalsTest.run();
        LeavesTest.run();
        BordersTest.run();
        ReelBordersTest.run();
        FilmBordersTest.run();
        ModelTest.run();
        LanguageTest.run(args.length > 0 ? args[0] : "src/main/java/FilmNoises.java");
        RoomTest.run();
        ReadmeTest.run("README.md");
        System.exit(Due.close());
    }
}
