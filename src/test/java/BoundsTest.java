/** Each sentence of the document that names a bound, with a test of its own. */
public final class BoundsTest {
    public static void main(String[] args) {
        GearBounds.all();
        DeviationBounds.all();
        LineBounds.all();
        ClassBounds.all();
        MeshBounds.all();
        TextBounds.all();
        StateBounds.all();
        Sentences.verdict();
        Due.verdict("BoundsTest");
    }
}
