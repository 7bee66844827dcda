/** Every sentence of the document that names a boundary case, part by part; each promise is named by one at least. */
public final class EdgesTest {
    private static final int PROMISES = 59;

    public static void main(String[] args) {
        Checks c = new Checks("EdgesTest");
        Edges e = new Edges(c);
        RowEdges.all(e);
        TrainEdges.all(e);
        TowerEdges.all(e);
        StrikingEdges.all(e);
        RightEdges.all(e);
        FaultEdges.all(e);
        WheelEdges.all(e);
        TellingEdges.all(e);
        for (int number = 1; number <= PROMISES; number++) {
            c.is("promise " + number + " is named", e.promises.contains(number) ? 1 : 0, 1);
        }
        c.end();
    }
}
