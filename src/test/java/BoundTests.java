import java.io.IOException;

/** The boundary cases that the document names: at the bound, one below it and one above it. */
public final class BoundTests {
    public static void main(String[] args) throws IOException {
        Sayings sayings = new Sayings();
        new TextBounds(sayings).all();
        new ChangeBounds(sayings).all();
        new DayBounds(sayings).all();
        new PlanBounds(sayings).all();
        new SeenBounds(sayings).all();
        new SheetBounds(sayings).all();
        new RefusalBounds(sayings).all();
        sayings.end();
    }
}
