/** Each sentence of the document that names a boundary case has a test of its own; none of its words is left out. */
public final class EdgesTest {
    private EdgesTest() {
    }

    public static void main(String[] args) throws Exception {
        Edges.readDocument();
        EdgesOfWords.run();
        EdgesOfEquation.run();
        EdgesOfForm.run();
        EdgesOfSystems.run();
        EdgesOfCoins.run();
        EdgesOfLattice.run();
        EdgesOfJugs.run();
        EdgesOfUndoing.run();
        Edges.tellUnborne();
        if (Edges.report() > 0) {
            System.exit(1);
        }
    }
}
