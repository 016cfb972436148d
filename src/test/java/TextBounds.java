import java.util.List;

/** Sentences about the reading text: promises 32 to 34, and the description of its commands. */
final class TextBounds {
    private TextBounds() {
    }

    static void all() {
        length();
        commands();
        numbers();
        errorPositions();
        errorsOfEachByte();
        append();
        clearText();
        parse();
        notPossible();
    }

    private static GearGauge with(String text) {
        GearGauge x = new GearGauge();
        Bounds.text(x, text);
        return x;
    }

    private static int parsed(String text) {
        return with(text).parse();
    }

    /** The text has a syntax error at this position, changes nothing and stays. */
    private static void error(String text, int position) {
        Due.is("parse " + text, parsed(text), -10 - position);
        Due.is("parse " + text + " behind a gear", parsed("g5,1;" + text), -15 - position);
        GearGauge x = with(text);
        x.parse();
        Due.is(text + " changes nothing", Bounds.trace(x), Bounds.trace(with(text)));
    }

    /** The text has no syntax error. */
    private static void noError(String text) {
        int got = parsed(text);
        Due.is("parse " + text + " answers " + got, got >= 0 || got <= -1000, true);
    }

    private static String times(int count, String text) {
        StringBuilder b = new StringBuilder();
        for (int i = 0; i < count; i++) {
            b.append(text);
        }
        return b.toString();
    }

    private static void length() {
        Sentences.section("Description");
        Sentences.test("The text has at most 160 bytes.", () -> {
            GearGauge x = new GearGauge();
            for (int i = 1; i <= 160; i++) {
                Due.is("length", x.append('5'), i);
            }
            Due.is("a byte too many", Due.outcome(() -> x.append('5')), Due.STATE.getName());
            Due.is("length", x.clearText(), 160);
        });
        Sentences.test("The text has at most 160 bytes.", "all of them count", () -> {
            Due.is("160 bytes", Bounds.TEXT_OF_160.length(), 160);
            GearGauge x = with(Bounds.TEXT_OF_160);
            Due.is("commands", x.parse(), 9);
            GearPromisesTest.hasReadings("left", x, 0, 0, -11, 22, -33, 44, -55, 66);
            GearPromisesTest.hasReadings("right", x, 0, 1, 12, -23, 34, -45, 56, -67);
            GearPromisesTest.hasReadings("radial", x, 0, 2, -13, 24, -35, 46, -57);
            Due.is("lines", x.lines(), 5);
            Due.is("the last point of 12", x.point(3, 11), 12);
            Due.is("the last point", x.point(4, 5), 4999);
            // 160 bytes without an end, and with an error in the last one.
            Due.is("too early", parsed(Bounds.TEXT_OF_160.substring(0, 155) + "9,999"), -170);
            Due.is("the last byte", parsed(Bounds.TEXT_OF_160.substring(0, 159) + "-"), -169);
            Due.is("32 commands", parsed(times(32, "g5,1;")), -1006);
            Due.is("the most readings", parsed("f" + times(79, "0,") + "0"), -10 - 160);
            Due.is("the most readings", parsed("f" + times(78, "0,") + "0;"), -1000);
            Due.is("160 digits", parsed("l" + times(159, "0")), -10 - 5);
        });
    }

    private static void commands() {
        Sentences.section("Description");
        String words = "It is a sequence of commands, each terminated by a semicolon: ..";
        Sentences.test(words, "each terminated by a semicolon", () -> {
            Due.is("terminated", parsed("g5,1;"), 1);
            error("g5,1", 4);
            error("g5,1;g6,2", 9);
            error("g5,1;;", 5);
            error(";", 0);
            error("g5,1,", 4);
            error("g5,1g6,1;", 4);
        });
        Sentences.test(words, "g adds a gear", () -> {
            GearGauge x = with("g5,20;g30,1;");
            Due.is("commands", x.parse(), 2);
            Due.is("gears", x.gears(), 2);
            Due.is("teeth", x.gear(0, 0), 5);
            Due.is("module", x.gear(0, 1), 20);
            Due.is("teeth", x.gear(1, 0), 30);
            Due.is("module", x.gear(1, 1), 1);
            for (int series = 0; series < 3; series++) {
                GearPromisesTest.hasReadings("all 0", x, 0, series, new int[series == 2 ? 5 : 6]);
                GearPromisesTest.hasReadings("all 0", x, 1, series, new int[series == 2 ? 30 : 31]);
            }
        });
        Sentences.test(words, "l, r and f are the series of the last gear", () -> {
            String[] letters = {"l", "r", "f"};
            for (int series = 0; series < 3; series++) {
                GearGauge x = Bounds.gears(5, 6, 5);
                for (int gear = 0; gear < 3; gear++) {
                    x.fill(gear, gear, 9);
                }
                List<Object> due = Bounds.contents(x);
                // Behind 17 readings of gear 0, 20 of gear 1 and the names of the three gears.
                for (int i = 0; i < (series == 2 ? 5 : 6); i++) {
                    due.set(40 + 6 * series + i, 101 + i);
                }
                Bounds.text(x, letters[series] + "101,102,103,104,105" + (series == 2 ? "" : ",106") + ";");
                Due.is(letters[series], x.parse(), 1);
                Due.is(letters[series] + ", all readings", Bounds.contents(x), due);
            }
        });
        Sentences.test(words, "as many as the series has", () -> {
            for (int z : new int[] {5, 6, 30}) {
                for (int count = 1; count <= 32; count++) {
                    String row = "1" + times(count - 1, ",1") + ";";
                    String gear = "g" + z + ",1;";
                    Due.is("l of " + count + " for " + z, parsed(gear + "l" + row), count == z + 1 ? 2 : -1001);
                    Due.is("r of " + count + " for " + z, parsed(gear + "r" + row), count == z + 1 ? 2 : -1001);
                    Due.is("f of " + count + " for " + z, parsed(gear + "f" + row), count == z ? 2 : -1001);
                }
            }
        });
        Sentences.test(words, "p and h add a line of 3 to 12 points to the last gear", () -> {
            for (int points = 3; points <= 12; points++) {
                for (int kind = 0; kind < 2; kind++) {
                    GearGauge x = Bounds.gears(5, 6);
                    x.addLine(0, 1 - kind);
                    Bounds.text(x, (kind == 0 ? "p" : "h") + "-9" + times(points - 1, ",8") + ";");
                    Due.is("commands", x.parse(), 1);
                    Due.is("lines", x.lines(), 2);
                    Due.is("gear", x.line(1, 0), 1);
                    Due.is("kind", x.line(1, 1), kind);
                    Due.is("points", x.line(1, 2), points);
                    Due.is("the first point", x.point(1, 0), -9);
                    Due.is("the last point", x.point(1, points - 1), 8);
                    Due.is("total", x.lineDeviation(1, 0), 17);
                    Due.is("the line before it", x.line(0, 2), 0);
                }
            }
            for (String letter : new String[] {"p", "h"}) {
                error(letter + "1;", 2);
                error(letter + "1,2;", 4);
                noError(letter + "1,2,3;");
                noError(letter + "1,2,3,4,5,6,7,8,9,0,1,2;");
                error(letter + "1,2,3,4,5,6,7,8,9,0,1,2,3;", 24);
            }
        });
        Sentences.test("There are no spaces; there can be no commands.", () -> {
            Due.is("no commands", parsed(""), 0);
            String good = "g5,1;l-1,2,3,4,5,6;";
            for (int i = 0; i <= good.length(); i++) {
                error(good.substring(0, i) + " " + good.substring(i), i);
            }
            error("\n", 0);
            error("g5,1;\n", 5);
            error("g5,\t1;", 3);
        });
    }

    private static void numbers() {
        Sentences.section("Description");
        String words = "Numbers are separated by commas, and the first one follows the letter; ..";
        Sentences.test(words, "commas", () -> {
            error("g,5,1;", 1);
            error("g5,,1;", 3);
            error("g5.1;", 2);
            error("l1;2;", 3);
            error("l1,2,;", 5);
            error("l,;", 1);
            error("p1-2-3;", 2);
        });
        Sentences.test(words, "an optional minus sign", () -> {
            Due.is("taken", parsed("g5,1;f-1,-0,-9,-5000,0;"), 2);
            error("l--1;", 2);
            error("l1-;", 2);
            error("l-;", 2);
            error("l-,1;", 2);
            error("l-1-;", 3);
            error("l+1;", 1);
            error("g-,1;", 2);
            error("g5,--1;", 4);
            error("l1,-,2;", 4);
        });
        Sentences.test(words, "one to four digits", () -> {
            Due.is("taken", parsed("g5,1;f0,10,100,1000,4999;"), 2);
            Due.is("leading zeros", parsed("g0005,0001;f0000,0010,-0100,-0001,-4999;"), 2);
            for (String letter : new String[] {"g", "l", "r", "f", "p", "h"}) {
                error(letter + "12345,1;", 5);
                error(letter + "-12345,1;", 6);
                error(letter + "00000,1;", 5);
                error(letter + "1,12345,1;", 7);
                error(letter + "1,-12345,1;", 8);
                noError(letter + "1234,-1234" + (letter.equals("g") ? ";" : ",0;"));
            }
        });
        Sentences.test(words, "their values", () -> {
            GearGauge x = with("g0030,0020;p-0,0007,-0070;h4999,-4999,5000,-5000;");
            Due.is("commands", x.parse(), 3);
            Due.is("teeth", x.gear(0, 0), 30);
            Due.is("module", x.gear(0, 1), 20);
            int[][] due = {{0, 7, -70}, {4999, -4999, 5000, -5000}};
            for (int line = 0; line < 2; line++) {
                for (int i = 0; i < due[line].length; i++) {
                    Due.is("point " + i, x.point(line, i), due[line][i]);
                }
            }
        });
    }

    private static void errorPositions() {
        Sentences.section("Description");
        String words = "The syntax error position is the index of the first byte that cannot stand where it stands ..";
        Sentences.test(words, "a fifth digit", () -> {
            error("g12345", 5);
            error("g5,12345", 7);
            error("l-12345", 6);
            error("p1,2,3,4,5,6,7,8,9,0,1,12345;", 27);
            error("f1,2,3,99999999", 11);
        });
        Sentences.test(words, "a third number of g, at the comma before it", () -> {
            error("g5,1,1;", 4);
            error("g5,1,", 4);
            error("g5555,1111,1;", 10);
            error("g-5,-1,-1;", 6);
        });
        Sentences.test(words, "a thirteenth one of p or h, at the comma before it", () -> {
            for (String letter : new String[] {"p", "h"}) {
                error(letter + "1,2,3,4,5,6,7,8,9,0,1,2,3;", 24);
                error(letter + "1,2,3,4,5,6,7,8,9,0,1,2,", 24);
                error(letter + "1111,2,3,4,5,6,7,8,9,0,1,-2222,3", 31);
                error(letter + "1,2,3,4,5,6,7,8,9,0,1,2", 24);
            }
        });
        Sentences.test(words, "a semicolon behind too few numbers", () -> {
            for (String letter : new String[] {"g", "l", "r", "f", "p", "h"}) {
                error(letter + ";", 1);
                error(letter + "-;", 2);
                error(letter + "1,;", 3);
                error(letter + "1,-;", 4);
            }
            error("g5;", 2);
            error("g5555;", 5);
            for (String letter : new String[] {"p", "h"}) {
                error(letter + "1;", 2);
                error(letter + "1,2;", 4);
                error(letter + "1,2,;", 5);
            }
            for (String letter : new String[] {"l", "r", "f"}) {
                noError(letter + "1;");
            }
        });
        Sentences.test(words, "the length of the text if the text ends too early", () -> {
            String good = "g0005,-001;p1,-2,3;l1;";
            for (int i = 1; i < good.length(); i++) {
                if (good.charAt(i - 1) != ';') {
                    error(good.substring(0, i), i);
                }
            }
            noError(good);
        });
        Sentences.test(words, "the first one of several", () -> {
            error("x;y;", 0);
            error("g5;1;x", 2);
            error("g5,1;x;;;", 5);
            error("l1,,2,,", 3);
        });
        Sentences.test(words, "nothing is carried out before it", () -> {
            error("g5,1;g6,1;f1,2,3,4,5,6;p1,2,3;x", 30);
            // The first command is not possible, but there is a syntax error behind it.
            Due.is("g4,1;,", parsed("g4,1;,"), -15);
            Due.is("l1;l", parsed("l1;l"), -14);
            Due.is("p1,2,9999;g5,1;g5", parsed("p1,2,9999;g5,1;g5"), -10 - 17);
        });
    }

    /** Each of the 128 bytes, in each place of a command. */
    private static void errorsOfEachByte() {
        Sentences.section("Description");
        String words = "The syntax error position is the index of the first byte that cannot stand where it stands ..";
        String digits = "0123456789";
        String[][] places = {{"", "glrfph"}, {"g", "-" + digits}, {"g-", digits}, {"g5", "," + digits},
            {"g-5", "," + digits}, {"g5555", ","}, {"g-5555", ","}, {"g5,", "-" + digits}, {"g5,-", digits},
            {"g5,1", ";" + digits}, {"g5,1111", ";"}, {"l", "-" + digits}, {"r-", digits}, {"f1", ",;" + digits},
            {"f1111", ",;"}, {"l1,", "-" + digits}, {"r1,2", ",;" + digits}, {"p", "-" + digits}, {"h-", digits},
            {"p1", "," + digits}, {"h1,2", "," + digits}, {"p1,2,", "-" + digits}, {"h1,2,3", ",;" + digits},
            {"p1,2,3,4,5,6,7,8,9,0,1,2", ";" + digits}, {"h1,2,3,4,5,6,7,8,9,0,1,-2222", ";"}, {"g5,1;", "glrfph"}};
        for (String[] place : places) {
            Sentences.test(words, "each byte behind " + place[0], () -> {
                for (int c = 0; c < 128; c++) {
                    GearGauge x = with(place[0]);
                    x.append(c);
                    int length = place[0].length();
                    boolean good = place[1].indexOf(c) >= 0;
                    int got = x.parse();
                    if (c == ';' && good) {
                        Due.is("no error, but " + got, got >= 0 || got <= -1000, true);
                    } else {
                        Due.is("the byte " + c, got, good ? -11 - length : -10 - length);
                    }
                }
            });
        }
    }

    private static void append() {
        Sentences.section("Promise 32: append");
        Sentences.test("Appends a byte to the reading text.", () -> {
            GearGauge x = with("g5,");
            x.append('1');
            x.append(';');
            Due.is("parse", x.parse(), 1);
            Due.is("module", x.gear(0, 1), 1);
        });
        Sentences.test("Appends a byte to the reading text.", "and does nothing else", () -> {
            GearGauge x = Bounds.rich();
            GearGauge twin = Bounds.rich();
            x.append('q');
            x.clearText();
            twin.clearText();
            Due.is("state", Bounds.trace(x), Bounds.trace(twin));
        });
        Sentences.test("- `value`: the byte, 0 to 127", () -> {
            Bounds.range(Due.ARGUMENT, GearGauge::new, (x, v) -> x.append(v), 0, 127);
            Bounds.range(Due.ARGUMENT, Bounds::rich, (x, v) -> x.append(v), 0, 127);
        });
        Sentences.test("Returns the new length of the text.", () -> {
            GearGauge x = new GearGauge();
            for (int i = 1; i <= 160; i++) {
                Due.is("length", x.append(i % 128), i);
            }
            x.clearText();
            Due.is("behind clearText", x.append(0), 1);
        });
        Sentences.test("Throws `IllegalArgumentException` if value is out of range", () -> {
            int[] wrong = {-1, 128, 255, 256, -128, Bounds.LEAST, Bounds.MOST};
            Bounds.refused(Due.ARGUMENT, GearGauge::new, (x, v) -> x.append(v), wrong);
            // Here the text has 160 bytes, too.
            Bounds.refused(Due.ARGUMENT, Bounds::full, (x, v) -> x.append(v), wrong);
        });
        Sentences.test("Throws `IllegalStateException` if the text has 160 bytes", () -> {
            Bounds.refused(Due.STATE, Bounds::full, (x, v) -> x.append(v), 0, 127, ';');
            GearGauge x = with(times(159, "5"));
            Due.is("the last one", x.append('5'), 160);
            Due.is("one too many", Due.outcome(() -> x.append('5')), Due.STATE.getName());
            Due.is("one too many again", Due.outcome(() -> x.append('5')), Due.STATE.getName());
            x.clearText();
            Due.is("behind clearText", x.append('5'), 1);
        });
    }

    private static void clearText() {
        Sentences.section("Promise 33: clearText");
        Sentences.test("Empties the reading text.", () -> {
            GearGauge x = with("g5,1;x");
            x.clearText();
            Due.is("nothing to parse", x.parse(), 0);
            Bounds.text(x, "g6,1;");
            Due.is("the new text alone", x.parse(), 1);
            Due.is("the new text alone", x.gear(0, 0), 6);
        });
        Sentences.test("Empties the reading text.", "nothing of it stays for a later text", () -> {
            String[] texts = {"", "g", "g-", "g5,-", "g12345", "g5,1", "g4,1;", "l9999,9999,9999,9999,9999,9999,9999;",
                "p1,2,3,9999;", "h1,2,3,4,5,6,7,8,9,9999,9999,9999;", "h1,2,3,4,5,6,7,8,9,10,11,12", "x;;;;;;;;;;;",
                ";;;;;;;;;;;;;;;;;;;;;;;;;;;;;;;;", Bounds.TEXT_OF_160.substring(5), "g5,1;l0,0,0,0,0,0;p1,2,3;"};
            for (String before : texts) {
                for (String text : texts) {
                    GearGauge x = with(before);
                    int got = x.parse();
                    if (got >= 0) {
                        x.undo();
                    }
                    x.clearText();
                    Bounds.text(x, text);
                    Due.is(before + ", then " + text, Bounds.trace(x), Bounds.trace(with(text)));
                }
            }
        });
        Sentences.test("Empties the reading text.", "and nothing else", () -> {
            GearGauge x = Bounds.full();
            GearGauge twin = Bounds.full();
            x.clearText();
            Bounds.text(x, Bounds.TEXT_OF_160);
            Due.is("state", Bounds.trace(x), Bounds.trace(twin));
        });
        Sentences.test("Returns the length that it had.", () -> {
            GearGauge x = new GearGauge();
            Due.is("of a new object", x.clearText(), 0);
            x.append('g');
            Due.is("of one byte", x.clearText(), 1);
            Due.is("a second time", x.clearText(), 0);
            Due.is("of a full text", Bounds.full().clearText(), 160);
            GearGauge y = Bounds.full();
            Due.outcome(() -> y.append('5'));
            Due.is("behind a byte that was refused", y.clearText(), 160);
        });
    }

    private static void parse() {
        Sentences.section("Promise 34: parse");
        Sentences.test("Carries out the commands of the text.", () -> {
            GearGauge x = Bounds.gears(30);
            x.fill(0, 9, 40);
            Bounds.text(x, "g5,2;l1,2,3,4,5,6;r7,8,9,10,11,12;f13,14,15,16,17;p1,2,3;h4,5,6,7;g6,3;f1,2,3,4,5,6;");
            Due.is("commands", x.parse(), 8);
            Due.is("gears", x.gears(), 3);
            GearPromisesTest.hasReadings("left", x, 1, 0, 1, 2, 3, 4, 5, 6);
            GearPromisesTest.hasReadings("right", x, 1, 1, 7, 8, 9, 10, 11, 12);
            GearPromisesTest.hasReadings("radial", x, 1, 2, 13, 14, 15, 16, 17);
            GearPromisesTest.hasReadings("radial", x, 2, 2, 1, 2, 3, 4, 5, 6);
            Due.is("lines", x.lines(), 2);
            Due.is("gear of line 0", x.line(0, 0), 1);
            Due.is("gear of line 1", x.line(1, 0), 1);
            Due.is("kind of line 1", x.line(1, 1), 1);
        });
        Sentences.test("The text stays as it is.", () -> {
            String[] texts = {"", "g5,1;", "g5,1", "g4,1;", "x", Bounds.TEXT_OF_160};
            for (String text : texts) {
                GearGauge x = with(text);
                int got = x.parse();
                Due.is(text + " the second time", x.parse(), got);
                Due.is(text + ", its length", x.clearText(), text.length());
            }
        });
        Sentences.test("Undoable, if all are carried out.", () -> {
            Bounds.undoable(x -> x.parse());
            Bounds.undoable(x -> {
                x.clearText();
                x.parse();
                Bounds.text(x, Bounds.TEXT);
                return 0;
            });
            for (String text : new String[] {"g6,2;l1", "g6,2;l1;", "p1,2,3;p1,2,5001;", "x"}) {
                Bounds.Make with = () -> {
                    GearGauge x = Bounds.rich();
                    x.clearText();
                    Bounds.text(x, text);
                    return x;
                };
                GearGauge x = with.made();
                Due.is(text + " is not carried out", x.parse() < 0, true);
                Due.is(text + " saves nothing", Bounds.trace(x), Bounds.trace(with.made()));
            }
        });
        String words = "Returns the number of commands; ..";
        Sentences.test(words, "the number of commands", () -> {
            Due.is("none", parsed(""), 0);
            for (int count = 1; count <= 6; count++) {
                Due.is("gears", parsed(times(count, "g5,1;")), count);
            }
            Due.is("the most", parsed("g5,1;" + times(10, "p0,0,0;")), 11);
            Due.is("the most of series", parsed("g5,1;" + times(15, "f0,0,0,0,0")), -10 - 15);
            Due.is("the most of series", parsed("g5,1;" + times(14, "f0,0,0,0,0;")), 15);
        });
        Sentences.test(words, "-10 minus the syntax error position", () -> {
            Due.is("position 0", parsed("x"), -10);
            Due.is("position 1", parsed("g"), -11);
            Due.is("position 159", parsed(times(31, "g5,1;") + "g5,1,"), -10 - 159);
            Due.is("position 160", parsed(times(31, "g5,1;") + "g5,11"), -10 - 160);
        });
        Sentences.test(words, "-1000 minus the index of the first command that is not possible", () -> {
            Due.is("the first", parsed("l1;"), -1000);
            Due.is("the second", parsed("g5,1;l1;"), -1001);
            Due.is("the first of two", parsed("g5,1;l1;r1;"), -1001);
            Due.is("the 12th", parsed("g5,1;" + times(10, "p0,0,0;") + "p0,0,0;"), -1011);
            Due.is("the 15th", parsed("g5,1;" + times(13, "f0,0,0,0,0;") + "l0;"), -1014);
        });
    }

    private static GearGauge before(GearGauge x, String text) {
        x.clearText();
        Bounds.text(x, text);
        return x;
    }

    /** The command of this index is not possible, and nothing is changed. */
    private static void impossible(Bounds.Make make, String text, int index) {
        GearGauge x = before(make.made(), text);
        Due.is(text, x.parse(), -1000 - index);
        Due.is(text + " changes nothing", Bounds.trace(x), Bounds.trace(before(make.made(), text)));
    }

    private static void notPossible() {
        Sentences.section("Promise 34: parse");
        String words = "If one of them is not possible ..";
        Sentences.test(words, "a number out of range, of g", () -> {
            String[] wrong = {"g4,1;", "g31,1;", "g5,0;", "g5,21;", "g-5,1;", "g5,-1;", "g0,0;", "g9999,1;", "g5,9999;",
                "g-9999,-9999;", "g1,5;"};
            for (String text : wrong) {
                impossible(GearGauge::new, text, 0);
                impossible(() -> Bounds.gears(5), "g5,1;" + text, 1);
            }
            Due.is("just within", parsed("g5,1;g30,20;g5,20;g30,1;"), 4);
        });
        Sentences.test(words, "a number out of range, of a series", () -> {
            for (String letter : new String[] {"l", "r", "f"}) {
                for (String wrong : new String[] {"5001", "-5001", "9999", "-9999"}) {
                    String more = letter.equals("f") ? "" : ",0";
                    impossible(Bounds::rich, "g5,1;" + letter + wrong + ",0,0,0,0" + more + ";", 1);
                    impossible(Bounds::rich, "g5,1;" + letter + "0,0,0,0" + more + "," + wrong + ";", 1);
                    impossible(Bounds::rich, "g5,1;" + letter + "0,0," + wrong + ",0,0" + more + ";", 1);
                }
            }
            Due.is("just within", parsed("g5,1;l5000,-5000,0,0,0,5000;r-5000,0,0,0,0,-5000;f5000,-5000,0,0,0;"), 4);
        });
        Sentences.test(words, "a number out of range, of a line", () -> {
            for (String letter : new String[] {"p", "h"}) {
                for (String wrong : new String[] {"5001", "-5001", "9999", "-9999"}) {
                    impossible(Bounds::rich, letter + wrong + ",0,0;", 0);
                    impossible(Bounds::rich, letter + "0," + wrong + ",0;", 0);
                    impossible(Bounds::rich, letter + "0,0," + wrong + ";", 0);
                    impossible(Bounds::rich, letter + "1,2,3,4,5,6,7,8,9,10,11," + wrong + ";", 0);
                }
            }
            Due.is("just within", parsed("g5,1;p5000,-5000,0;h-5000,0,5000;"), 3);
        });
        Sentences.test(words, "another number of readings than the series has", () -> {
            // The last gear of the rich object has 7 teeth.
            for (String letter : new String[] {"l", "r", "f"}) {
                int due = letter.equals("f") ? 7 : 8;
                for (int count : new int[] {1, due - 1, due + 1, 30, 31}) {
                    impossible(Bounds::rich, letter + "0" + times(count - 1, ",0") + ";", 0);
                }
                Due.is(letter, before(Bounds.rich(), letter + "0" + times(due - 1, ",0") + ";").parse(), 1);
            }
        });
        Sentences.test(words, "no gear", () -> {
            for (String letter : new String[] {"l", "r", "f", "p", "h"}) {
                impossible(GearGauge::new, letter + "0,0,0,0,0,0;", 0);
                impossible(GearGauge::new, letter + "0,0,0,0,0;", 0);
                impossible(GearGauge::new, letter + "0,0,0;g5,1;", 0);
                impossible(() -> {
                    GearGauge x = Bounds.gears(5);
                    x.removeGear(0);
                    return x;
                }, letter + "0,0,0,0,0;", 0);
            }
        });
        Sentences.test(words, "no room for a gear", () -> {
            impossible(Bounds::full, "g5,1;", 0);
            impossible(Bounds::full, "f0,0,0,0,0;g5,1;", 1);
            impossible(() -> Bounds.gears(5, 5, 5, 5, 5), "g6,1;g7,1;", 1);
            impossible(GearGauge::new, times(7, "g5,1;"), 6);
            Due.is("room for one", before(Bounds.gears(5, 5, 5, 5, 5), "g6,1;").parse(), 1);
        });
        Sentences.test(words, "no room for a line", () -> {
            impossible(Bounds::full, "p1,2,3;", 0);
            impossible(Bounds::full, "h1,2,3;", 0);
            impossible(Bounds::full, "f0,0,0,0,0;h1,2,3;", 1);
            impossible(Bounds::rich, times(7, "p1,2,3;"), 6);
            Due.is("room for six", before(Bounds.rich(), times(6, "h1,2,3;")).parse(), 6);
        });
        Sentences.test(words, "nothing is changed by what stands before it", () -> {
            String[] texts = {"g6,2;l1,2,3,4,5,6,7;l1;", "g6,2;p1,2,3;g4,1;", "p1,2,3;h1,2,3;f1;", "f1,2,3,4,5,6,7;f1;",
                "l1,2,3,4,5,6,7,8;r1,2,3,4,5,6,7,5001;"};
            int[] index = {2, 2, 2, 1, 1};
            for (int i = 0; i < texts.length; i++) {
                impossible(Bounds::rich, texts[i], index[i]);
                impossible(Bounds::worn, texts[i], index[i]);
            }
        });
    }
}
