/** Each sentence of the document that names a boundary case has a test of its own. */
public final class EdgesTest {
  public static void main(String[] args) throws ReflectiveOperationException {
    Edge.runAll(MintEdges.class);
    Edge.runAll(LawEdges.class);
    Edge.runAll(CoinEdges.class);
    Edge.runAll(ChordEdges.class);
    Edge.runAll(PayEdges.class);
    Edge.runAll(LandEdges.class);
    Edge.everyPromiseIsNamed();
    Check.close();
  }
}
