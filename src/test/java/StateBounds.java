import java.math.BigInteger;
import java.util.ArrayList;
import java.util.List;

/** Sentences about the state: undo and digest, exceptions, the constant, and how long an object is used. */
final class StateBounds {
    private StateBounds() {
    }

    static void all() {
        usedFor512Calls();
        constant();
        undoOfDescription();
        savedStates();
        exceptions();
        undo();
        digest();
        digestOfEach();
    }

    /** Calls from the second one on, made over and over until the object has had 511. */
    private static GearGauge used(Bounds.Call first, Bounds.Call... calls) {
        GearGauge x = new GearGauge();
        first.on(x);
        for (int i = 0; i < 510; i++) {
            calls[i % calls.length].on(x);
        }
        return x;
    }

    private static void usedFor512Calls() {
        Sentences.section("What it is");
        String words = "An object is used for at most 512 calls after it has been made; what later calls answer is free.";
        Sentences.test(words, "511 calls of setReading", () -> {
            GearGauge x = used(y -> y.addGear(5, 1), y -> y.setReading(0, 0, 1, 7), y -> y.setReading(0, 0, 1, 8));
            Due.is("the call 512", x.reading(0, 0, 1), 8);
        });
        Sentences.test(words, "508 saved states, and the last ones brought back", () -> {
            GearGauge x = Bounds.gears(5);
            for (int i = 1; i <= 507; i++) {
                x.setReading(0, 0, 1, i);
            }
            for (int left = 3; left > 1; left--) {
                Due.is("undo", x.undo(), left);
            }
            Due.is("the call 511", x.reading(0, 0, 1), 505);
            Due.is("the call 512", x.undo(), 1);
        });
        Sentences.test(words, "gears and lines that come and go", () -> {
            Due.is("gears", used(y -> y.addGear(5, 1), y -> y.addGear(6, 2), y -> y.removeGear(0)).addGear(7, 1), 1);
            Due.is("lines", used(y -> y.addGear(5, 1), y -> y.addLine(0, 1), y -> y.removeLine(0)).addLine(0, 1), 0);
            Due.is("points", used(y -> y.addGear(5, 1), y -> y.addLine(0, 1), y -> y.addPoint(0, 3), y -> y.addPoint(0, 4),
                    y -> y.addPoint(0, 6), y -> y.lineDeviation(0, 0), y -> y.removeLine(0)).lines(), 0);
        });
        Sentences.test(words, "undo over and over", () -> {
            Due.is("undo", used(y -> y.addGear(5, 1), y -> y.fill(0, 1, 9), y -> y.undo()).undo(), 0);
            GearGauge x = used(y -> y.addGear(30, 1), y -> y.fill(0, 1, 9), y -> y.fill(0, 2, 9), y -> y.undo());
            // Each round saves two states, of which the second one drops the oldest, and takes one back.
            Due.is("undo", x.undo(), 2);
        });
        Sentences.test(words, "texts over and over", () -> {
            Due.is("append", used(y -> y.append('g'), y -> y.append('5'), y -> y.append(','), y -> y.clearText())
                    .append('x'), 1);
            GearGauge x = used(y -> y.append('x'), y -> y.clearText(), y -> y.append('g'), y -> y.append('5'),
                    y -> y.append(','), y -> y.append('1'), y -> y.append(';'), y -> y.parse(), y -> y.undo(),
                    y -> y.parse(), y -> y.removeGear(0));
            Due.is("parse", x.parse(), 1);
        });
        Sentences.test(words, "calls that are refused", () -> {
            GearGauge x = used(y -> y.addGear(5, 1), y -> Due.outcome(() -> y.addGear(4, 1)),
                    y -> Due.outcome(() -> y.turn(0, 9)), y -> Due.outcome(() -> y.addPoint(0, 1)));
            Due.is("the call 512", x.undo(), 0);
        });
        Sentences.test(words, "dear calls", () -> {
            GearGauge x = used(y -> y.addGear(30, 20), y -> y.digest(), y -> y.bestPhase(0, 0, 0), y -> y.partner(0, 1),
                    y -> y.ranked(0), y -> y.turn(0, 29), y -> y.fill(0, 999999, 1000), y -> y.quality(0, -1));
            Due.is("the call 512", x.gear(0, 0), 30);
        });
    }

    private static void constant() {
        Sentences.section("Description");
        Sentences.test("- `NONE = -1`: There is no such thing.", () -> Due.is("NONE", GearGauge.NONE, -1));
    }

    private static void undoOfDescription() {
        Sentences.section("Description");
        String words = "Each successful call of a method whose description says \"undoable\" saves the state from before "
                + "the call, even if the call changes nothing; ..";
        Sentences.test(words, "even if the call changes nothing", () -> {
            Bounds.Call[] calls = {x -> x.setReading(1, 1, 30, x.reading(1, 1, 30)), x -> x.turn(2, 0),
                x -> x.fill(2, 13, 50), x -> {
                    x.clearText();
                    int got = x.parse();
                    Bounds.text(x, Bounds.TEXT);
                    return got;
                }};
            for (Bounds.Call call : calls) {
                Bounds.undoable(call);
                GearGauge x = Bounds.rich();
                long before = x.digest();
                call.on(x);
                Due.is("only the number of saved states has changed", x.digest(), before + 1);
            }
        });
        Sentences.test(words, "each method that says so", () -> {
            Bounds.Call[] calls = {x -> x.addGear(5, 1), x -> x.removeGear(1), x -> x.setReading(0, 0, 0, 1),
                x -> x.fill(0, 1, 1), x -> x.turn(0, 1), x -> x.addLine(0, 1), x -> x.addPoint(2, 1),
                x -> x.removeLine(3), x -> x.parse()};
            for (Bounds.Call call : calls) {
                GearGauge x = Bounds.rich();
                call.on(x);
                Due.is("saved states", x.undo(), 2);
                Due.is("the state from before", Bounds.trace(x), Bounds.trace(Bounds.rich()));
            }
        });
        Sentences.test(words, "no other method", () -> {
            Bounds.Call[] calls = {x -> x.gears(), x -> x.gear(0, 3), x -> x.reading(0, 0, 0), x -> x.index(0, 0, 1),
                x -> x.pitch(0, 0, 1), x -> x.span(0, 0, 1), x -> x.thickness(0, -1), x -> x.eccentricity(0),
                x -> x.deviation(0, 0), x -> x.lines(), x -> x.line(0, 0), x -> x.point(0, 0),
                x -> x.lineDeviation(0, 1), x -> x.best(0, true, 1), x -> x.tolerance(0, 0, 1), x -> x.quality(0, -1),
                x -> x.decide(0, 1, 0), x -> x.mesh(0, 1, 0, 1), x -> x.bestPhase(0, 1, 0), x -> x.partner(0, 0),
                x -> x.mean(0), x -> x.ranked(0), x -> x.digest()};
            for (Bounds.Call call : calls) {
                GearGauge x = Bounds.rich();
                call.on(x);
                Due.is("all is as before", Bounds.trace(x), Bounds.trace(Bounds.rich()));
            }
            GearGauge x = Bounds.rich();
            x.clearText();
            x.append('q');
            Due.is("saved states behind calls about the text", x.undo(), 1);
        });
        Sentences.test(words, "only successful calls", () -> {
            GearGauge x = Bounds.full();
            Bounds.Call[] calls = {y -> y.addGear(5, 1), y -> y.addGear(4, 1), y -> y.removeGear(6),
                y -> y.setReading(0, 0, 6, 0), y -> y.setReading(0, 0, 0, 5001), y -> y.fill(0, -1, 0),
                y -> y.turn(0, 5), y -> y.addLine(0, 0), y -> y.addPoint(0, 0), y -> y.addPoint(1, 5001),
                y -> y.removeLine(10)};
            for (Bounds.Call call : calls) {
                Due.is("refused", Due.outcome(() -> call.on(x)) instanceof String, true);
            }
            x.clearText();
            x.append('g');
            Due.is("a text with an error", x.parse(), -11);
            x.clearText();
            Bounds.text(x, "g5,1;");
            Due.is("a text that is not possible", x.parse(), -1000);
            x.clearText();
            Bounds.text(x, Bounds.TEXT_OF_160);
            Due.is("saved states and all", Bounds.trace(x), Bounds.trace(Bounds.full()));
        });
    }

    private static void savedStates() {
        Sentences.section("Description");
        String words = "Each successful call of a method whose description says \"undoable\" saves the state from before "
                + "the call, even if the call changes nothing; ..";
        Sentences.test(words, "at most 4 states, and the oldest is dropped first", () -> {
            for (int calls = 0; calls <= 12; calls++) {
                GearGauge x = new GearGauge();
                // The first call adds a gear, so before call i the reading is i - 1.
                for (int i = 0; i < calls; i++) {
                    if (i == 0) {
                        x.addGear(5, 1);
                    } else {
                        x.setReading(0, 0, 3, i);
                    }
                }
                int saved = Math.min(4, calls);
                for (int back = 1; back <= saved; back++) {
                    Due.is("of " + calls + " calls, undo " + back, x.undo(), saved - back);
                    int left = calls - back;
                    Due.is("gears", x.gears(), left > 0 ? 1 : 0);
                    if (left > 0) {
                        Due.is("reading", x.reading(0, 0, 3), left - 1);
                    }
                }
                Due.is("of " + calls + " calls, one undo more", Due.outcome(() -> x.undo()), Due.STATE.getName());
            }
        });
        Sentences.test(words, "a call behind undo", () -> {
            GearGauge x = Bounds.gears(5);
            for (int i = 1; i <= 4; i++) {
                x.setReading(0, 1, 0, i);
            }
            Due.is("undo", x.undo(), 3);
            Due.is("undo", x.undo(), 2);
            x.setReading(0, 1, 0, 30);
            x.setReading(0, 1, 0, 40);
            x.setReading(0, 1, 0, 50);
            int[] due = {40, 30, 2, 1};
            for (int i = 0; i < 4; i++) {
                Due.is("undo", x.undo(), 3 - i);
                Due.is("reading", x.reading(0, 1, 0), due[i]);
            }
        });
        Sentences.test("The saved state contains everything except the reading text.", "everything", () -> {
            List<Object> before = Bounds.contents(smallFull());
            for (int i = 0; i < 6; i++) {
                GearGauge x = smallFull();
                x.removeGear(i);
                x.undo();
                Due.is("behind the removal of gear " + i, Bounds.contents(x), before);
                GearGauge y = smallFull();
                y.fill(i, 3, 700);
                y.undo();
                Due.is("behind the fill of gear " + i, Bounds.contents(y), before);
            }
        });
        Sentences.test("The saved state contains everything except the reading text.", "not the text", () -> {
            GearGauge x = new GearGauge();
            x.append('g');
            x.addGear(5, 1);
            Bounds.text(x, "6,1;");
            x.undo();
            Due.is("the longer text", x.parse(), 1);
            Due.is("the longer text", x.gear(0, 0), 6);
            x.clearText();
            x.undo();
            Due.is("the empty text", x.parse(), 0);
            Due.is("the empty text", x.clearText(), 0);
        });
        Sentences.test("The saved state contains everything except the reading text.", "not what comes later", () -> {
            GearGauge x = smallFull();
            x.setReading(0, 0, 0, 1);
            List<Object> saved = Bounds.contents(x);
            x.setReading(0, 0, 0, 2);
            x.removeLine(0);
            x.removeGear(1);
            x.fill(0, 5, 5000);
            x.undo();
            x.undo();
            x.undo();
            x.undo();
            Due.is("four calls before", Bounds.contents(x), saved);
        });
    }

    /** Six gears of few teeth, ten lines. */
    private static GearGauge smallFull() {
        GearGauge x = Bounds.gears(5, 5, 5, 5, 5, 5);
        for (int i = 0; i < 6; i++) {
            x.fill(i, i, 90);
        }
        for (int i = 0; i < 10; i++) {
            x.addLine(i % 6, i % 2);
            x.addPoint(i, 7 * i);
        }
        return x;
    }

    private static void exceptions() {
        Sentences.section("Description");
        Sentences.test("A call that throws an exception changes nothing.", () -> {
            Bounds.Call[] calls = {x -> x.addGear(4, 1), x -> x.addGear(5, 1), x -> x.removeGear(6),
                x -> x.setReading(6, 0, 0, 0), x -> x.setReading(0, 0, 0, 5001), x -> x.fill(6, 0, 0),
                x -> x.fill(0, 1, 5001), x -> x.turn(6, 0), x -> x.turn(0, 5), x -> x.gear(6, 0), x -> x.gear(0, 6),
                x -> x.reading(0, 2, 5), x -> x.index(0, 0, 6), x -> x.pitch(0, 0, 0), x -> x.span(0, 2, 1),
                x -> x.span(0, 0, 0), x -> x.thickness(0, 5), x -> x.eccentricity(6), x -> x.deviation(6, 0),
                x -> x.deviation(0, 9), x -> x.addLine(6, 0), x -> x.addLine(0, 2), x -> x.addLine(0, 0),
                x -> x.addPoint(10, 0), x -> x.addPoint(0, 5001), x -> x.addPoint(0, 0), x -> x.removeLine(10),
                x -> x.line(10, 0), x -> x.line(0, 3), x -> x.point(0, 12), x -> x.lineDeviation(10, 0),
                x -> x.lineDeviation(0, 3), x -> x.lineDeviation(2, 0), x -> x.best(10, true, 0),
                x -> x.best(0, true, 2), x -> x.best(2, true, 0), x -> x.tolerance(6, 0, 1), x -> x.tolerance(0, 9, 1),
                x -> x.tolerance(0, 0, 13), x -> x.quality(6, 0), x -> x.quality(0, 9), x -> x.decide(6, 1, 0),
                x -> x.decide(0, 0, 0), x -> x.decide(0, 1, 1001), x -> x.mesh(0, 6, 0, 0), x -> x.mesh(0, 0, 2, 0),
                x -> x.mesh(0, 0, 0, 5), x -> x.bestPhase(0, 0, 2), x -> x.partner(0, 2), x -> x.mean(9),
                x -> x.ranked(6), x -> x.append(128), x -> x.append(0)};
            for (int i = 0; i < calls.length; i++) {
                GearGauge x = Bounds.full();
                Bounds.Call call = calls[i];
                Due.is("call " + i + " throws", Due.outcome(() -> call.on(x)) instanceof String, true);
                Due.is("call " + i + " changes nothing", Bounds.trace(x), Bounds.trace(Bounds.full()));
            }
            GearGauge x = new GearGauge();
            Due.outcome(() -> x.undo());
            Due.is("undo changes nothing", Bounds.trace(x), Bounds.trace(new GearGauge()));
        });
        Sentences.test("A call that throws an exception changes nothing.", "a turn that fails at its last reading", () -> {
            Bounds.Make make = () -> {
                GearGauge x = Bounds.gears(5);
                GearPromisesTest.set(x, 0, 0, 0, 1, 2, 3, 4, 5);
                GearPromisesTest.set(x, 0, 1, 0, 0, 0, 0, 5000, 1);
                return x;
            };
            Bounds.refused("turn", Due.STATE, make, x -> x.turn(0, 4));
            GearGauge x = make.made();
            Due.outcome(() -> x.turn(0, 4));
            Due.is("all readings", Bounds.contents(x), Bounds.contents(make.made()));
        });
        Sentences.test("If several exceptions apply, the one that is listed first is thrown.", () -> {
            Bounds.Call[] bounds = {x -> x.setReading(6, 0, 0, 5001), x -> x.setReading(0, 3, 0, 5001),
                x -> x.setReading(0, 2, 5, -5001), x -> x.fill(6, -1, 5001), x -> x.gear(6, 6), x -> x.span(6, 0, 0),
                x -> x.span(0, 2, 0), x -> x.deviation(6, 9), x -> x.addLine(6, 2), x -> x.addLine(6, 0),
                x -> x.addPoint(10, 5001), x -> x.line(10, 3), x -> x.lineDeviation(10, 3), x -> x.best(10, true, 2),
                x -> x.tolerance(6, 9, 13), x -> x.quality(6, 9), x -> x.decide(6, 0, 1001), x -> x.mesh(6, 0, 0, -1),
                x -> x.mesh(0, 6, 0, -1), x -> x.mesh(0, 0, 2, -1)};
            Bounds.Call[] arguments = {x -> x.addGear(4, 1), x -> x.addGear(5, 21), x -> x.addLine(0, 2),
                x -> x.addPoint(0, 5001), x -> x.lineDeviation(2, 3), x -> x.best(2, true, 2), x -> x.append(128)};
            for (int i = 0; i < bounds.length; i++) {
                Bounds.refused("call " + i, Due.BOUNDS, Bounds::full, bounds[i]);
            }
            for (int i = 0; i < arguments.length; i++) {
                Bounds.refused("call " + i, Due.ARGUMENT, Bounds::full, arguments[i]);
            }
        });
    }

    private static void undo() {
        Sentences.section("Promise 35: undo");
        Sentences.test("Restores the most recently saved state and removes it from the saved states.", () -> {
            GearGauge x = Bounds.gears(5);
            x.setReading(0, 0, 0, 1);
            x.setReading(0, 0, 0, 2);
            x.undo();
            Due.is("the most recent one", x.reading(0, 0, 0), 1);
            x.undo();
            Due.is("the one before it", x.reading(0, 0, 0), 0);
            x.undo();
            Due.is("the first one", x.gears(), 0);
            Due.is("none is left", Due.outcome(() -> x.undo()), Due.STATE.getName());
        });
        Sentences.test("Restores the most recently saved state and removes it from the saved states.",
                "undo saves nothing", () -> {
            GearGauge x = Bounds.gears(5, 6);
            Due.is("undo", x.undo(), 1);
            Due.is("undo", x.undo(), 0);
            Due.is("undo of undo", Due.outcome(() -> x.undo()), Due.STATE.getName());
        });
        Sentences.test("Returns the number of saved states that remain.", () -> {
            GearGauge x = Bounds.full();
            for (int left = 3; left >= 0; left--) {
                Due.is("undo", x.undo(), left);
            }
            GearGauge y = Bounds.gears(5, 5, 5);
            for (int left = 2; left >= 0; left--) {
                Due.is("undo", y.undo(), left);
            }
        });
        Sentences.test("Throws `IllegalStateException` if there is no saved state", () -> {
            Bounds.refused("of a new object", Due.STATE, GearGauge::new, x -> x.undo());
            Bounds.Make undone = () -> {
                GearGauge x = Bounds.full();
                for (int i = 0; i < 4; i++) {
                    x.undo();
                }
                return x;
            };
            Bounds.refused("behind four", Due.STATE, undone, x -> x.undo());
            Bounds.refused("with nothing but a text", Due.STATE, () -> {
                GearGauge x = new GearGauge();
                Bounds.text(x, Bounds.TEXT);
                return x;
            }, x -> x.undo());
            GearGauge x = undone.made();
            Due.outcome(() -> x.undo());
            x.removeGear(0);
            Due.is("behind a call", x.undo(), 0);
        });
    }

    /** The hash by numbers without bounds, cut to 64 bits at the end alone. */
    private static long hash(List<Long> values) {
        BigInteger h = BigInteger.valueOf(2963);
        for (long v : values) {
            h = h.multiply(BigInteger.valueOf(31)).add(BigInteger.valueOf(v));
        }
        return h.longValue();
    }

    /** The values of the digest, as the other calls answer them. */
    private static List<Long> values(GearGauge x, long text, long saved) {
        List<Long> v = new ArrayList<>();
        v.add(text);
        v.add((long) x.gears());
        for (int g = 0; g < x.gears(); g++) {
            int z = x.gear(g, 0);
            for (int what = 0; what <= 5; what++) {
                v.add((long) x.gear(g, what));
            }
            for (int series = 0; series < 3; series++) {
                for (int i = 0; i < (series == 2 ? z : z + 1); i++) {
                    v.add((long) x.reading(g, series, i));
                }
            }
            for (int what = 0; what <= 8; what++) {
                v.add((long) x.deviation(g, what));
            }
        }
        v.add((long) x.lines());
        for (int l = 0; l < x.lines(); l++) {
            int points = x.line(l, 2);
            for (int what = 0; what <= 2; what++) {
                v.add((long) x.line(l, what));
            }
            for (int i = 0; i < points; i++) {
                v.add((long) x.point(l, i));
            }
            for (int what = 0; points >= 3 && what <= 2; what++) {
                v.add((long) x.lineDeviation(l, what));
            }
        }
        v.add(saved);
        return v;
    }

    private static void digest() {
        Sentences.section("Promise 36: digest");
        Sentences.test("Returns a hash of the state.", () -> {
            Bounds.Make small = () -> {
                GearGauge x = Bounds.gears(5, 6);
                x.fill(1, 3, 50);
                LinePromisesTest.line(x, 1, 1, 4, 5, 7);
                Bounds.text(x, "g5");
                return x;
            };
            GearGauge y = small.made();
            Bounds.answers("of a small object", small, x -> x.digest(), hash(values(y, 2, 4)));
        });
        String words = "Start with h = 2963 and, for each of the following values v, set h = 31 * h + v: ..";
        Sentences.test(words, "nothing there", () ->
                Due.is("digest", new GearGauge().digest(), hash(List.of(0L, 0L, 0L, 0L))));
        Sentences.test(words, "the length of the text", () -> {
            GearGauge x = new GearGauge();
            for (long i = 1; i <= 160; i++) {
                x.append('5');
                Due.is("digest", x.digest(), hash(List.of(i, 0L, 0L, 0L)));
            }
        });
        Sentences.test(words, "the number of saved states", () -> {
            GearGauge x = new GearGauge();
            for (long i = 1; i <= 6; i++) {
                x.parse();
                Due.is("digest", x.digest(), hash(List.of(0L, 0L, 0L, Math.min(4, i))));
            }
            for (long i = 3; i >= 0; i--) {
                x.undo();
                Due.is("digest", x.digest(), hash(List.of(0L, 0L, 0L, i)));
            }
        });
        Sentences.test(words, "gears and lines", () -> {
            for (int seed = 0; seed < 6; seed++) {
                GearGauge x = Bounds.gears(5, 6, 7);
                for (int g = 0; g < 3; g++) {
                    x.fill(g, 10 * seed + g, 40 * seed);
                }
                for (int l = 0; l < 5; l++) {
                    x.addLine((l + seed) % 3, l % 2);
                    for (int i = 0; i < l + 1; i++) {
                        x.addPoint(l, i * i * seed - 9 * l);
                    }
                }
                x.append('g');
                Due.is("digest", x.digest(), hash(values(x, 1, 4)));
            }
        });
        Sentences.test("Returns the hash, with the overflow of long arithmetic ignored.", () -> {
            // Some 50 values: far beyond a long.
            for (int sign = -1; sign <= 1; sign += 2) {
                GearGauge x = Bounds.gears(7);
                for (int i = 0; i < 7; i++) {
                    x.setReading(0, 2, i, 5000 * sign);
                    x.setReading(0, 0, i, 5000 * sign);
                }
                Due.is("digest", x.digest(), hash(values(x, 0, 4)));
            }
            // A gear makes 36 values of 0 to 255 and 31 to a power far beyond 64 bits.
            GearGauge y = Bounds.gears(30);
            Due.is("of 30 teeth", y.digest(), hash(values(y, 0, 1)));
        });
    }

    /** Each value by itself: a literal list of all of them. */
    private static void digestOfEach() {
        Sentences.section("Promise 36: digest");
        String words = "Start with h = 2963 and, for each of the following values v, set h = 31 * h + v: ..";
        Sentences.test(words, "the order of all values", () -> {
            GearGauge x = new GearGauge();
            x.addGear(5, 2);
            GearPromisesTest.set(x, 0, 0, 0, 0, 30, 0, 0, 10);
            GearPromisesTest.set(x, 0, 1, 100, 100, 97, 104, 99, 94);
            GearPromisesTest.set(x, 0, 2, 7, -3, 0, 12, 2);
            LinePromisesTest.line(x, 0, 0, 0, 10, 5);
            LinePromisesTest.line(x, 0, 1, 36, 53);
            LinePromisesTest.line(x, 0, 1);
            x.append('q');
            long[] due = {1, 1, 5, 2, 3, 5, 10, -6, 0, 0, 30, 0, 0, 10, 100, 100, 97, 104, 99, 94, 7, -3, 0, 12, 2,
                32, 34, 15, 10, 5, 8, 0, 0, 0, 3, 0, 0, 3, 0, 10, 5, 10, 5, 8, 0, 1, 2, 36, 53, 0, 1, 0, 4};
            List<Long> all = new ArrayList<>();
            for (long v : due) {
                all.add(v);
            }
            Due.is("digest", x.digest(), hash(all));
        });
        Sentences.test(words, "3 points or more", () -> {
            for (int points = 0; points <= 12; points++) {
                GearGauge x = Bounds.gears(5);
                x.addLine(0, 0);
                for (int i = 0; i < points; i++) {
                    x.addPoint(0, i * i);
                }
                Due.is("digest of " + points + " points", x.digest(), hash(values(x, 0, Math.min(4, 2 + points))));
            }
        });
    }
}
