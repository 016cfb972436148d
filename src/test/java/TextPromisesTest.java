/** Promises 32 to 34: the reading text. */
public final class TextPromisesTest {
    public static void main(String[] args) {
        append();
        clearText();
        syntaxErrors();
        syntaxErrorsBeforeImpossibleCommands();
        everyByteAtTheStart();
        numbers();
        longText();
        impossibleCommands();
        noRoom();
        carriedOut();
        lastGear();
        failingParseChangesNothing();
        parseIsUndoable();
        Due.verdict("TextPromisesTest");
    }

    static int parsed(GearGauge x, String text) {
        x.clearText();
        for (int i = 0; i < text.length(); i++) {
            x.append(text.charAt(i));
        }
        return x.parse();
    }

    private static void append() {
        GearGauge x = new GearGauge();
        Due.throwing("append -1", x, Due.ARGUMENT, () -> x.append(-1));
        Due.throwing("append 128", x, Due.ARGUMENT, () -> x.append(128));
        Due.throwing("append far", x, Due.ARGUMENT, () -> x.append(Integer.MIN_VALUE));
        Due.is("append 0", x.append(0), 1);
        Due.is("append 127", x.append(127), 2);
        for (int i = 3; i <= 160; i++) {
            Due.is("append", x.append('l'), i);
        }
        Due.throwing("append a byte too many", x, Due.STATE, () -> x.append('l'));
        Due.throwing("append a wrong byte too many", x, Due.ARGUMENT, () -> x.append(128));
        Due.throwing("append is not undoable", x, Due.STATE, () -> x.undo());
        Due.is("clearText", x.clearText(), 160);
        Due.is("append again", x.append('l'), 1);
    }

    private static void clearText() {
        GearGauge x = new GearGauge();
        Due.is("clearText", x.clearText(), 0);
        x.append('x');
        x.append('y');
        Due.is("parse", x.parse(), -10);
        Due.is("clearText", x.clearText(), 2);
        Due.is("clearText twice", x.clearText(), 0);
        Due.is("parse an empty text", x.parse(), 0);
        Due.is("clearText is not undoable", x.undo(), 0);
        Due.is("undo leaves the text", x.clearText(), 0);
    }

    private static void syntaxErrors() {
        Object[][] texts = {
            {"g", 1}, {"g5", 2}, {"g5,", 3}, {"g5,1", 4}, {"g5,-", 4}, {"g-", 2}, {"g;", 1}, {"g,", 1}, {"gg", 1},
            {"g5;", 2}, {"g5,;", 3}, {"g5,1,", 4}, {"g5,1,1;", 4}, {"g,5;", 1}, {"g 5,1;", 1}, {"g5 ,1;", 2},
            {"g--5,1;", 2}, {"g5-,1;", 2}, {"g5,1-;", 4}, {"g-;", 2}, {"g-,1;", 2}, {"g12345,1;", 5},
            {"g-12345,1;", 6}, {"g00005,1;", 5}, {"g5,1;;", 5}, {"g5,1; ", 5}, {"g5,1;g", 6}, {"g5,1;x", 5},
            {"l", 1}, {"l;", 1}, {"l1", 2}, {"l1,", 3}, {"l1,;", 3}, {"l1,,2;", 3}, {"l1;2", 3}, {"l+1;", 1},
            {"l1.5;", 2}, {"r", 1}, {"r;", 1}, {"r99999;", 5}, {"f", 1}, {"f-", 2}, {"f1,2-", 4}, {"f1:", 2},
            {"f1/", 2}, {"p", 1}, {"p1;", 2}, {"p1,2;", 4}, {"p1,2", 4}, {"p1,2,", 5}, {"p1,2,3", 6}, {"h;", 1},
            {"h1;", 2}, {"h1,2;", 4}, {"h1,2,-;", 6}, {"h1,2,12345;", 9}, {"h1,2,3,", 7}, {"h1,2,3,;", 7},
            {"p1,2,3,4,5,6,7,8,9,0,1,2,", 24}, {"p1,2,3,4,5,6,7,8,9,0,1,2,3;", 24},
            {"h1,2,3,4,5,6,7,8,9,0,1,2,", 24}, {"h1,2,3,4,5,6,7,8,9,0,1,2", 24},
            {"g5,1;p1,2,3;h1,2,3;l1,2,3,4,5,6;r1,2,3,4,5,6;f1,2,3,4,5;q", 56},
        };
        for (Object[] t : texts) {
            GearGauge x = new GearGauge();
            String text = (String) t[0];
            Due.is("parse " + text, parsed(x, text), -10 - (Integer) t[1]);
            Due.is("parse " + text + " adds nothing", x.gears(), 0);
            Due.throwing("parse " + text + " saves nothing", x, Due.STATE, () -> x.undo());
            Due.is("parse " + text + " leaves the text", x.clearText(), text.length());
        }
    }

    private static void syntaxErrorsBeforeImpossibleCommands() {
        GearGauge x = new GearGauge();
        Due.is("parse, no gear", parsed(x, "l1;"), -1000);
        Due.is("parse, no gear, but a syntax error", parsed(x, "l1;l"), -14);
        Due.is("parse, no gear, but a syntax error", parsed(x, "g4,1;l1;,"), -18);
    }

    private static void everyByteAtTheStart() {
        for (int c = 0; c < 128; c++) {
            GearGauge x = new GearGauge();
            x.append(c);
            boolean letter = "glrfph".indexOf(c) >= 0;
            Due.is("parse the byte " + c, x.parse(), letter ? -11 : -10);
        }
        for (int c = 0; c < 128; c++) {
            GearGauge x = new GearGauge();
            x.append('l');
            x.append(c);
            boolean number = c == '-' || c >= '0' && c <= '9';
            Due.is("parse l and the byte " + c, x.parse(), number ? -12 : -11);
        }
        for (int c = 0; c < 128; c++) {
            GearGauge x = new GearGauge();
            x.append('l');
            x.append('1');
            x.append(c);
            boolean more = c == ',' || c >= '0' && c <= '9';
            Due.is("parse l1 and the byte " + c, x.parse(), c == ';' ? -1000 : more ? -13 : -12);
        }
    }

    private static void numbers() {
        GearGauge x = new GearGauge();
        Due.is("parse numbers", parsed(x, "g0005,001;l-0,0,-5000,5000,0012,-007;"), 2);
        GearPromisesTest.hasReadings("parse numbers", x, 0, 0, 0, 0, -5000, 5000, 12, -7);
        Due.is("parse 12 points", parsed(x, "p1,2,3,4,5,6,7,8,9,10,11,-12;"), 1);
        Due.is("parse 12 points", x.line(0, 2), 12);
        Due.is("parse 12 points", x.point(0, 11), -12);
        Due.is("parse 3 points", parsed(x, "h-5,0,5;"), 1);
        Due.is("parse 3 points", x.lineDeviation(1, 1), 10);
    }

    private static void longText() {
        StringBuilder text = new StringBuilder("l0");
        for (int i = 1; i < 79; i++) {
            text.append(",0");
        }
        Due.is("parse 159 bytes that end too early", parsed(new GearGauge(), text.toString()), -10 - 158);
        Due.is("parse 79 readings", parsed(new GearGauge(), text + ";"), -1000);
        Due.is("parse 79 readings and a comma", parsed(new GearGauge(), text + ",0"), -10 - 160);
        GearGauge x = new GearGauge();
        StringBuilder gears = new StringBuilder("g30,20;f");
        for (int i = 0; i < 30; i++) {
            gears.append(i > 0 ? "," : "").append(100 + i);
        }
        gears.append(";g5,1;g5,1;g5,1;g5,1;");
        Due.is("parse a series of 30", parsed(x, gears.toString()), 6);
        Due.is("parse a series of 30", x.reading(0, 2, 29), 129);
        StringBuilder full = new StringBuilder();
        for (int i = 0; i < 10; i++) {
            full.append("h-100,-200,300;");
        }
        full.append("g0005,001;");
        Due.is("parse 160 bytes", parsed(x, full.toString()), 11);
        Due.is("parse 160 bytes", x.lines(), 10);
        Due.is("parse 160 bytes", x.gears(), 6);
        Due.is("parse 160 bytes", x.clearText(), 160);
    }

    private static void impossibleCommands() {
        Object[][] texts = {
            {"g4,1;", 0}, {"g31,1;", 0}, {"g5,0;", 0}, {"g5,21;", 0}, {"g-5,1;", 0}, {"g5,-1;", 0}, {"g9999,9999;", 0},
            {"l1,2,3,4,5,6;", 0}, {"r1;", 0}, {"f1,2,3,4,5;", 0}, {"p1,2,3;", 0}, {"h1,2,3;", 0},
            {"g5,1;l1,2,3,4,5;", 1}, {"g5,1;l1,2,3,4,5,6,7;", 1}, {"g5,1;r1,2,3,4,5;", 1}, {"g5,1;f1,2,3,4;", 1},
            {"g5,1;f1,2,3,4,5,6;", 1}, {"g5,1;l1,2,3,4,5,5001;", 1}, {"g5,1;l-5001,2,3,4,5,6;", 1},
            {"g5,1;r1,2,3,4,9999,6;", 1}, {"g5,1;f1,2,-5001,4,5;", 1}, {"g5,1;p1,2,5001;", 1},
            {"g5,1;h1,-5001,0;", 1}, {"g5,1;g6,1;f1,2,3,4,5;", 2}, {"g5,1;g5,1;g4,1;g3,1;", 2},
        };
        for (Object[] t : texts) {
            GearGauge x = new GearGauge();
            String text = (String) t[0];
            Due.is("parse " + text, parsed(x, text), -1000 - (Integer) t[1]);
            Due.is("parse " + text + " adds no gear", x.gears(), 0);
            Due.is("parse " + text + " adds no line", x.lines(), 0);
            Due.throwing("parse " + text + " saves nothing", x, Due.STATE, () -> x.undo());
            Due.is("parse " + text + " leaves the text", x.clearText(), text.length());
        }
    }

    private static void noRoom() {
        GearGauge x = new GearGauge();
        Due.is("parse seven gears", parsed(x, "g5,1;g5,1;g5,1;g5,1;g5,1;g5,1;g5,1;"), -1006);
        Due.is("parse six gears", parsed(x, "g5,1;g5,1;g5,1;g5,1;g5,1;g5,1;"), 6);
        Due.is("parse a seventh gear", parsed(x, "g5,1;"), -1000);
        String five = "p1,2,3;h1,2,3;p1,2,3;h1,2,3;p1,2,3;";
        Due.is("parse eleven lines", parsed(x, five + five + "p1,2,3;"), -1010);
        Due.is("parse ten lines", parsed(x, five + five), 10);
        Due.is("parse an eleventh line", parsed(x, "h1,2,3;"), -1000);
        Due.is("parse gears", x.gears(), 6);
        Due.is("parse lines", x.lines(), 10);
    }

    private static void carriedOut() {
        GearGauge x = new GearGauge();
        x.addGear(8, 3);
        x.fill(0, 4, 9);
        String text = "g5,2;l1,2,3,4,5,6;r-1,-2,-3,-4,-5,-6;f10,20,30,40,50;p7,8,9;h-1,5000,-5000,0;";
        Due.is("parse", parsed(x, text), 6);
        Due.is("parse gears", x.gears(), 2);
        Due.is("parse teeth", x.gear(1, 0), 5);
        Due.is("parse module", x.gear(1, 1), 2);
        GearPromisesTest.hasReadings("parse", x, 1, 0, 1, 2, 3, 4, 5, 6);
        GearPromisesTest.hasReadings("parse", x, 1, 1, -1, -2, -3, -4, -5, -6);
        GearPromisesTest.hasReadings("parse", x, 1, 2, 10, 20, 30, 40, 50);
        int[][] lines = {{1, 0, 3}, {1, 1, 4}};
        for (int what = 0; what < 3; what++) {
            Due.is("parse line 0, " + what, x.line(0, what), lines[0][what]);
            Due.is("parse line 1, " + what, x.line(1, what), lines[1][what]);
        }
        Due.is("parse point", x.point(0, 2), 9);
        Due.is("parse point", x.point(1, 2), -5000);
        Due.is("parse total", x.lineDeviation(1, 0), 10000);
        Due.is("parse slope", x.lineDeviation(0, 1), 2);
        Due.is("the text stays", x.parse(), 6);
        Due.is("the text stays", x.gears(), 3);
        Due.is("the text stays", x.clearText(), text.length());
    }

    private static void lastGear() {
        GearGauge x = new GearGauge();
        x.addGear(5, 1);
        x.addGear(6, 1);
        Due.is("parse for the last gear", parsed(x, "f1,2,3,4,5,6;p1,2,4;"), 2);
        Due.is("parse for the last gear", x.reading(1, 2, 5), 6);
        Due.is("parse for the last gear", x.reading(0, 2, 0), 0);
        Due.is("parse for the last gear", x.line(0, 0), 1);
        x.removeGear(1);
        Due.is("parse for the gear before", parsed(x, "f1,2,3,4,5;h1,2,4;"), 2);
        Due.is("parse for the gear before", x.reading(0, 2, 0), 1);
        Due.is("parse for the gear before", x.line(0, 0), 0);
    }

    private static void failingParseChangesNothing() {
        GearGauge x = new GearGauge();
        x.addGear(5, 1);
        x.fill(0, 3, 30);
        x.addLine(0, 0);
        String[] texts = {"l1,2,3,4,5,6;r1;", "f1,2,3,4,5;l1,2,3,4,5,5001;", "p1,2,3;g4,1;", "g6,1;l1;"};
        for (String text : texts) {
            x.clearText();
            long before = x.digest();
            Due.is("failing " + text, parsed(x, text), -1001);
            x.clearText();
            Due.is("failing " + text + " changes nothing", x.digest(), before);
        }
        Due.is("failing saves nothing", x.undo(), 2);
    }

    private static void parseIsUndoable() {
        GearGauge x = new GearGauge();
        x.addGear(5, 1);
        x.setReading(0, 0, 1, 9);
        Due.is("parse", parsed(x, "l1,2,3,4,5,6;g6,1;p1,2,3;"), 3);
        Due.is("parse nothing", parsed(x, ""), 0);
        Due.is("parse undone, which changed nothing", x.undo(), 3);
        Due.is("parse undone", x.gears(), 2);
        Due.is("parse undone", x.undo(), 2);
        Due.is("parse undone", x.gears(), 1);
        Due.is("parse undone", x.lines(), 0);
        Due.is("parse undone", x.reading(0, 0, 1), 9);
        Due.is("parse undone", x.reading(0, 0, 5), 0);
        Due.is("parse again", parsed(x, "g5,1;"), 1);
        Due.is("undo", x.undo(), 2);
        Due.is("undo leaves the text", x.parse(), 1);
    }
}
