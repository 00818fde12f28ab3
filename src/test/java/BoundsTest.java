import java.io.IOException;

/** Promises 1 to 46: each sentence of the document, and the bounds that it names. */
public final class BoundsTest {
    public static void main(String[] args) throws IOException {
        Bounds b = new Bounds();
        BoundsTerms.run(b);
        BoundsWordsAskers.run(b);
        BoundsGame.run(b);
        BoundsAhead.run(b);
        BoundsTexts.run(b);
        BoundsSheetsSlots.run(b);
        BoundsRowsImages.run(b);
        if (b.end() != 0) {
            System.exit(1);
        }
    }
}
