/** The five examples of the document, in its order. */
public final class ExamplesTest {
    public static void main(String[] args) {
        closingError();
        profileLine();
        twoGears();
        classes();
        errors();
        Due.verdict("ExamplesTest");
    }

    private static void closingError() {
        GearGauge x = new GearGauge();
        Due.is("1 addGear", x.addGear(5, 2), 0);
        Due.is("1 setReading", x.setReading(0, 0, 2, 30), 0);
        Due.is("1 setReading", x.setReading(0, 0, 5, 10), 0);
        Due.is("1 index", x.index(0, 0, 2), 26);
        Due.is("1 pitch", x.pitch(0, 0, 3), -32);
        Due.is("1 span", x.span(0, 0, 2), 34);
        Due.is("1 deviation", x.deviation(0, 1), 34);
        Due.is("1 gear", x.gear(0, 4), 10);
    }

    private static void profileLine() {
        GearGauge x = new GearGauge();
        Due.is("2 addGear", x.addGear(5, 2), 0);
        Due.is("2 addLine", x.addLine(0, 0), 0);
        Due.is("2 addPoint", x.addPoint(0, 0), 1);
        Due.is("2 addPoint", x.addPoint(0, 10), 2);
        Due.is("2 addPoint", x.addPoint(0, 5), 3);
        Due.is("2 lineDeviation", x.lineDeviation(0, 0), 10);
        Due.is("2 lineDeviation", x.lineDeviation(0, 1), 5);
        Due.is("2 lineDeviation", x.lineDeviation(0, 2), 8);
        Due.is("2 best", x.best(0, false, 0), 5);
    }

    private static void twoGears() {
        GearGauge x = new GearGauge();
        Due.is("3 addGear", x.addGear(6, 1), 0);
        Due.is("3 addGear", x.addGear(8, 1), 1);
        Due.is("3 fill", x.fill(0, 1, 50), 11);
        Due.is("3 fill", x.fill(1, 2, 50), -99);
        Due.is("3 bestPhase", x.bestPhase(0, 1, 0), 0);
        Due.is("3 mesh", x.mesh(0, 1, 0, 0), 168);
        Due.is("3 partner", x.partner(0, 0), 1);
    }

    private static void classes() {
        GearGauge x = new GearGauge();
        Due.is("4 addGear", x.addGear(5, 1), 0);
        Due.is("4 tolerance", x.tolerance(0, 0, 5), 35);
        Due.is("4 tolerance", x.tolerance(0, 0, 6), 49);
        Due.is("4 setReading", x.setReading(0, 2, 0, 90), 0);
        Due.is("4 quality", x.quality(0, 2), 6);
        Due.is("4 decide", x.decide(0, 5, 10), 2);
    }

    private static void errors() {
        GearGauge x = new GearGauge();
        Due.is("5 append", x.append(103), 1);
        Due.is("5 append", x.append(53), 2);
        Due.is("5 parse", x.parse(), -12);
        Due.throwing("5 addGear", x, Due.ARGUMENT, () -> x.addGear(4, 1));
        Due.throwing("5 index", x, Due.BOUNDS, () -> x.index(0, 0, 0));
        Due.throwing("5 undo", x, Due.STATE, () -> x.undo());
    }
}
