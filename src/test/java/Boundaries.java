import java.util.List;

/** Each sentence of the document that names a boundary case has a test of its own, under src/test/help. */
public final class Boundaries {
  public static void main(String[] args) throws Exception {
    List<Bounds.Holds> held = Bounds.run(TextBounds.class, DeedBounds.class, RowBounds.class, SaysBounds.class, TrayBounds.class);
    Bounds.uncovered(held);
    Bounds.end();
  }
}
