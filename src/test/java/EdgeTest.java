import java.lang.reflect.InvocationTargetException;
import java.lang.reflect.Method;
import java.lang.reflect.Modifier;
import java.nio.file.Files;
import java.nio.file.Path;
import java.util.ArrayList;
import java.util.HashMap;
import java.util.LinkedHashMap;
import java.util.List;
import java.util.Map;
import java.util.function.Supplier;
import java.util.regex.Matcher;
import java.util.regex.Pattern;

/**
 * Each sentence of the document that names a boundary case (too small, too large, empty, full, a wrap-around, a refused
 * call), by a test of its own that quotes it. The quotes are looked up in the document, and its words of such cases
 * must all be quoted, so that no sentence goes without a test.
 */
public final class EdgeTest {
    private static final int BAD = -1, STATE = -2, FULL = -3, NONE = -4;
    private static final int LEAST = Integer.MIN_VALUE, MOST = Integer.MAX_VALUE;
    /** Where a call's number is to be put. */
    private static final int HERE = 777_777_777;
    private static final Path DOCUMENT = Path.of("../shared/DOC.md");
    private static final Map<String, Method> FACE = new HashMap<>();
    private static final Map<String, List<String>> QUOTES = new LinkedHashMap<>();

    private static String section = "";
    private static String sentence = "";
    private static int sentences = 0;
    private static int checks = 0;
    private static int wrong = 0;

    // ---------------------------------------------------------------- how it is told

    private static void edge(String words, Runnable test) {
        sentence = words;
        sentences++;
        QUOTES.computeIfAbsent(section, s -> new ArrayList<>()).add(words);
        int had = checks;
        test.run();
        hold(checks > had, "something is looked at");
    }

    private static void hold(boolean holds, String what) {
        checks++;
        if (!holds) {
            wrong++;
            System.out.println(section + ", \"" + sentence + "\": " + what);
        }
    }

    private static void alike(Object got, Object want, String what) {
        hold(got.equals(want), what + ": " + got + ", due is " + want);
    }

    private static String told(String name, int... args) {
        StringBuilder text = new StringBuilder(name).append("(");
        for (int a = 0; a < args.length; a++) {
            text.append(a == 0 ? "" : ", ").append(args[a]);
        }
        return text.append(")").toString();
    }

    /** An object with its calls, of which no more are made than the document allows. */
    private static final class Run {
        private final TemperIsles isles = new TemperIsles();
        private int calls = 0;
        private int most = 512;

        Run() {
        }

        Run(String text) {
            put(text);
            due(text.length() - text.replace(";", "").length(), "text");
        }

        long call(String name, int... args) {
            calls++;
            if (calls > most) {
                throw new IllegalStateException("the test makes more than 512 calls: " + sentence);
            }
            Object[] boxed = new Object[args.length];
            for (int a = 0; a < args.length; a++) {
                boxed[a] = args[a];
            }
            try {
                return ((Number) FACE.get(name).invoke(isles, boxed)).longValue();
            } catch (InvocationTargetException e) {
                hold(false, told(name, args) + " threw " + e.getCause());
                return LEAST;
            } catch (IllegalAccessException e) {
                throw new IllegalStateException(e);
            }
        }

        Run due(long want, String name, int... args) {
            long got = call(name, args);
            hold(got == want, told(name, args) + " answered " + got + ", due is " + want);
            return this;
        }

        Run bad(String name, int... args) {
            return due(BAD, name, args);
        }

        Run put(String text) {
            for (int c = 0; c < text.length(); c++) {
                call("feed", text.charAt(c));
            }
            return this;
        }

        Run at(int... places) {
            for (int i = 0; i < places.length; i++) {
                due(places[i], "isle", i, 1);
            }
            return this;
        }

        Run cells(int k, int... cells) {
            for (int c = 0; c < cells.length; c++) {
                due(1, "lay", k, c, cells[c]);
            }
            return this;
        }

        Run times(int n, String name, int... args) {
            for (int c = 0; c < n; c++) {
                call(name, args);
            }
            return this;
        }
    }

    /** Three isles, two ropes, something seen, one image, two sheets, a fault found in one, a tape of eight bytes. */
    private static Run busy() {
        Run x = new Run("plain 30;proud 34;fond 37;cross 0 1 2;cross 1 0 1;cross 2 1 3;rope 0 1 6;rope 2 0 12;feast 5;");
        x.call("days", 2);
        x.call("see", 3, 0, 28);
        x.call("keep", 1);
        x.call("sulk", 0, 2, 1);
        x.call("sheet", 0, 0, 7);
        x.cells(0, 0, 1, 3, 1, 1, 2);
        x.call("sheet", 3, 2, 3);
        x.call("read", 0, 1, 0, 1);
        return x.put("plain 1;");
    }

    private static void show(Run x, List<Long> all) {
        for (int w = 0; w < 6; w++) {
            all.add(x.call("rule", w));
            all.add(x.call("count", w));
        }
        all.add(x.call("fault"));
        all.add(x.call("torn"));
        long isles = x.call("rule", 0);
        for (int i = 0; i < isles; i++) {
            for (int w = 0; w < 6; w++) {
                all.add(x.call("isle", i, w));
            }
            all.add(x.call("kinds", i));
            for (int j = 0; j < isles; j++) {
                all.add(x.call("cross", i, j));
            }
        }
        long ropes = x.call("rule", 1);
        for (int k = 0; k < ropes; k++) {
            for (int w = 0; w < 3; w++) {
                all.add(x.call("rope", k, w));
            }
        }
    }

    /** All that an object holds: what is, what the sheets, the images and the tape hold. It is used up by this. */
    private static List<Long> all(Run x) {
        List<Long> all = new ArrayList<>();
        show(x, all);
        for (int k = 0; k < 4; k++) {
            for (int lane = 0; lane < 3; lane++) {
                all.add(x.call("read", k, lane, 0, 1));
                all.add(x.call("torn"));
            }
        }
        show(x, all);
        for (int k = 0; k < 2; k++) {
            all.add(x.call("back", k));
            show(x, all);
        }
        all.add(x.call("text"));
        show(x, all);
        return all;
    }

    private static void refused(Supplier<Run> made, long want, String name, int... args) {
        Run x = made.get();
        x.due(want, name, args);
        hold(all(x).equals(all(made.get())), told(name, args) + " is refused, but it changed something");
    }

    private static int[] with(int v, int... args) {
        int[] all = args.clone();
        for (int a = 0; a < all.length; a++) {
            all[a] = all[a] == HERE ? v : all[a];
        }
        return all;
    }

    /** A number of a call is refused below its least and above its most, and is taken at both. */
    private static void ends(Supplier<Run> made, int least, int most, String name, int... args) {
        int had = wrong;
        refused(made, BAD, name, with(least - 1, args));
        refused(made, BAD, name, with(most + 1, args));
        // Where a neighbour is taken already, MOST days or the like might never come to an end.
        for (int v : new int[] {LEAST, MOST, least + (1 << 8), least + (1 << 16), -most - 2}) {
            if (wrong == had) {
                refused(made, BAD, name, with(v, args));
            }
        }
        for (int v : new int[] {least, most}) {
            long got = made.get().call(name, with(v, args));
            hold(got >= 0 || got == NONE, told(name, with(v, args)) + " answered " + got + ", but is to be taken");
        }
    }

    private static void fault(String text, int fault, int place) {
        Run x = new Run().put(text);
        x.due(-10 - place, "text").due(fault, "fault").due(0, "count", 2).due(0, "rule", 0);
    }

    private static String blanks(int n) {
        return " ".repeat(n);
    }

    // ---------------------------------------------------------------- terms: answers

    private static void use() {
        section = "What it is";
        edge("An object is used for at most 512 calls after it has been made; what later calls answer is free.", () -> {
            Run x = new Run("plain 30;proud 34;");
            while (x.calls < 511) {
                x.due(0, "days", 0);
            }
            x.due(4, "rule", 5);
            // Later answers are free, but none may be thrown.
            x.most = 4000;
            while (x.calls < 4000) {
                long got = x.call("days", 30) + x.call("feed", 65) + x.call("see", 0, 0, 0) + x.call("wed", 0, 1, 1);
                hold(got >= -12, "later calls answer");
            }
        });
    }

    private static void answers() {
        section = "Terms";
        edge("BAD -1 (a number is not as told, there is no such ISLE, ROPE, IMAGE, SHEET)", () -> {
            alike(TemperIsles.BAD, -1, "BAD");
            Run x = busy();
            for (int i : new int[] {3, -1}) {
                x.bad("isle", i, 0).bad("cross", i, 0).bad("cross", 0, i).bad("far", i, 0).bad("far", 0, i);
                x.bad("alter", i, 0, 0).bad("sulk", i, 0, 1).bad("sulk", 0, i, 1).bad("wed", i, 0, 1).bad("wed", 0, i, 1);
                x.bad("ahead", i, 0).bad("kind", i, 0, 0).bad("see", 0, i, 0).bad("kinds", i).bad("sulks", i, 0);
                x.bad("sulks", 0, i).bad("ask", i, 0);
            }
            for (int k : new int[] {2, -1}) {
                x.bad("rope", k, 0).bad("haul", k, 1).bad("slack", k, 0, 0).bad("keep", k).bad("back", k);
            }
            for (int k : new int[] {4, -1}) {
                x.bad("sheet", k, 0, 1).bad("lay", k, 0, 0).bad("read", k, 0, 0, 0);
            }
        });
        edge("STATE -2 (as told), FULL -3, NONE -4 (there is none), the first that fits", EdgeTest::firstThatFits);
        edge("what is refused changes nothing (but THE TAPE, as told)", EdgeTest::refusals);
        edge("Fractions are in lowest terms, the denominator above 0 (0 is 0 by 1).", () -> {
            Run x = new Run("plain 10;plain 12;cross 0 1 1;feast 6;");
            x.due(1, "luck", 5, 2, 2, 0).due(4, "luck", 5, 2, 2, 1);
            x.due(1, "luck", 5, 8, 99, 0).due(1, "luck", 5, 8, 99, 1);
            x.due(0, "luck", 5, 8, 0, 0).due(1, "luck", 5, 8, 0, 1);
            x.due(0, "luck", 10, 0, 1, 0).due(1, "luck", 10, 0, 1, 1);
            x.due(3, "mean", 5, 2, 0).due(1, "mean", 5, 2, 1);
            x.due(5, "mean", 5, 1, 0).due(2, "mean", 5, 1, 1);
            x.due(14, "mean", 6, 2, 0).due(5, "mean", 6, 2, 1);
            new Run("plain 99;").due(0, "mean", 3, 8, 0).due(1, "mean", 3, 8, 1);
        });
    }

    private static void firstThatFits() {
        alike(TemperIsles.STATE, -2, "STATE");
        alike(TemperIsles.FULL, -3, "FULL");
        alike(TemperIsles.NONE, -4, "NONE");
        new Run().times(160, "feed", 32).due(FULL, "feed", 32).bad("feed", 128).bad("feed", -1);
        Run x = new Run("plain 1;plain 2;").times(6, "wed", 0, 1, 9);
        x.due(FULL, "wed", 0, 1, 9).bad("wed", 0, 1, 0).bad("wed", 0, 1, 31).bad("wed", 1, 1, 9).bad("wed", 0, 2, 9).bad("wed", 2, 0, 9);
        // Nothing can be nearer than 1: with room for a rope there is NONE, without it FULL stands first.
        x.due(FULL, "match", 9, 0).bad("match", 0, 0).bad("match", 31, 0).bad("match", 9, 2).bad("match", 9, -1);
        x.due(6, "loose", 5).due(NONE, "match", 9, 0);
        x.due(NONE, "within", 0).bad("within", -1).bad("within", 100);
        x.due(NONE, "fray", 0).bad("fray", 2).bad("fray", -1);
        x.due(NONE, "soothe", 0).bad("soothe", 2).bad("soothe", -1);
        x.due(NONE, "slack", 0, 9, 0).bad("slack", 5, 9, 0).bad("slack", 0, 61, 0).bad("slack", 0, -1, 0);
        x.due(NONE, "ask", 0, 0).bad("ask", 0, 2).bad("ask", 2, 0);
        x.times(6, "see", 0, 0, 0).due(FULL, "see", 0, 0, 0).bad("see", 21, 0, 0).bad("see", 0, 2, 0).bad("see", 0, 0, 100);
        x.due(STATE, "back", 0).bad("back", 2);
        x.times(33, "days", 30).due(FULL, "days", 10).due(FULL, "days", 30).bad("days", 31).bad("days", -1);
        x.due(-11, "lay", 0, 0, 0).due(-11, "lay", 0, 99, 0).bad("lay", 4, 99, 0);
        x.due(-14, "sheet", 0, 0, -1).bad("sheet", 4, 0, -1).bad("sheet", 0, 3, -1);
        x.due(0, "read", 0, 0, 0, 1).bad("read", 4, 0, 0, 1).bad("read", 0, 3, 0, 1).bad("read", 0, 0, 0, 14);
        Run none = new Run();
        none.due(STATE, "drift", 1, 1, 0).bad("drift", 1, 0, 0).bad("drift", 1, 61, 0).bad("drift", 1, 1, 2);
        new Run("plain 1;").due(NONE, "isle", 0, 5).bad("isle", 1, 5).bad("isle", 0, 6);
        new Run().due(NONE, "count", 3).bad("count", 6);
    }

    private static void refusals() {
        Supplier<Run> made = EdgeTest::busy;
        refused(made, BAD, "end", 9);
        refused(made, BAD, "isle", 3, 0);
        refused(made, BAD, "cross", 1, 1);
        refused(made, BAD, "far", 1, 1);
        refused(made, BAD, "alter", 0, 1, (int) busy().call("isle", 1, 1));
        refused(made, BAD, "sulk", 2, 2, 1);
        refused(made, BAD, "wed", 2, 2, 1);
        refused(made, BAD, "sulks", 2, 2);
        refused(made, STATE, "back", 0);
        refused(made, -14, "sheet", 0, 0, -1);
        refused(made, BAD, "sheet", 0, 0, 41);
        refused(made, -12, "lay", 0, 7, 9);
        refused(made, -12, "lay", 3, -1, 9);
        refused(made, -11, "lay", 1, 0, 9);
        refused(made, -21, "read", 0, 0, 0, 2);
        refused(made, BAD, "read", 0, 0, 0, 14);
        Supplier<Run> full = () -> busy().times(4, "wed", 1, 2, 3).times(5, "see", 2, 1, 40).times(33, "days", 30);
        refused(full, FULL, "wed", 0, 1, 1);
        refused(full, FULL, "match", 1, 0);
        refused(full, FULL, "see", 0, 0, 0);
        refused(full, FULL, "days", 8);
        refused(Run::new, STATE, "drift", 1, 1, 0);
        Run tape = new Run().put("plain 5").put(blanks(152)).put(";");
        tape.due(FULL, "feed", 'A').bad("feed", 128).due(160, "count", 2).due(1, "text").due(5, "isle", 0, 1);
        // A text that is refused empties the tape; all else stays.
        Run x = busy();
        x.due(8, "end", 0).put("plain 1;A").due(-18, "text").due(1, "fault").due(0, "count", 2);
        Run y = busy();
        y.due(8, "end", 0).put("A").due(-10, "text");
        hold(all(x).equals(all(y)), "a refused text changed something");
        Run z = busy();
        z.call("end", 0);
        List<Long> before = new ArrayList<>();
        show(z, before);
        List<Long> after = new ArrayList<>();
        show(x = z.put("plain").due(-15, "text"), after);
        before.set(12, 2L);
        alike(after, before, "all that is told");
        x.due(2, "back", 1);
    }

    // ---------------------------------------------------------------- terms: isles, ropes, days

    private static void isles() {
        edge("FATHOMS 0 to 99, in a line.", () -> {
            Run x = new Run("plain 0;proud 99;").at(0, 99).due(99, "far", 0, 1).due(99, "far", 1, 0).due(99, "rule", 5);
            x.bad("alter", 0, 1, -1).bad("alter", 1, 1, 100).at(0, 99);
            x.due(99, "alter", 1, 1, 50).due(0, "alter", 0, 1, 99).due(50, "alter", 1, 1, 0).at(99, 0);
            fault("plain 100;", 1, 6);
        });
        edge("ISLES 0 on (5 at most, by order)", () -> {
            Run x = new Run("plain 9;plain 7;plain 5;plain 3;plain 1;").due(5, "rule", 0).at(9, 7, 5, 3, 1).bad("isle", 5, 1);
            x.due(1, "wed", 4, 0, 1).bad("wed", 5, 0, 1).bad("wed", 0, 5, 1);
        });
        edge("each of a KIND (0 plain, 1 proud, 2 fond, 3 widow)", () -> {
            Run x = new Run("widow 1;fond 2;proud 3;plain 4;");
            x.due(3, "isle", 0, 0).due(2, "isle", 1, 0).due(1, "isle", 2, 0).due(0, "isle", 3, 0);
            x.bad("alter", 0, 0, 4).bad("alter", 0, 0, -1).due(3, "alter", 0, 0, 0).due(0, "alter", 0, 0, 3).due(3, "isle", 0, 0);
        });
        edge("no two AT the same", () -> {
            fault("plain 3;plain 3;", 4, 14);
            Run x = new Run("proud 3;proud 4;cross 0 1 3;cross 1 0 3;").bad("alter", 0, 1, 4).bad("alter", 1, 1, 3);
            x.due(3, "alter", 0, 1, 3).at(3, 4);
            x.due(0, "days", 1).at(3, 4);
        });
        edge("each is CROSS with each other one so much (0 to 3; 0 at first)", () -> {
            Run x = new Run("plain 1;plain 2;plain 3;");
            for (int i = 0; i < 3; i++) {
                for (int j = 0; j < 3; j++) {
                    x.due(i == j ? BAD : 0, "cross", i, j);
                }
            }
            x.due(0, "sulk", 0, 1, 3).due(3, "cross", 0, 1).due(0, "cross", 1, 0).bad("sulk", 0, 1, 4).bad("sulk", 0, 1, -1);
            x.due(3, "sulk", 0, 1, 0).due(0, "cross", 0, 1);
        });
        edge("ROPES (6 at most, by order), each between two ISLES, of a LENGTH (1 to 30 FATHOMS).", () -> {
            Run x = new Run("plain 1;plain 2;plain 3;rope 0 1 1;rope 1 2 30;").bad("wed", 1, 1, 5).bad("wed", 0, 1, 0).bad("wed", 0, 1, 31);
            x.due(3, "wed", 2, 0, 3).due(4, "wed", 0, 1, 4).due(5, "wed", 0, 1, 5).due(6, "wed", 0, 1, 6).due(FULL, "wed", 0, 1, 7);
            int[] lengths = {1, 30, 3, 4, 5, 6};
            for (int k = 0; k < 6; k++) {
                x.due(lengths[k], "rope", k, 2);
            }
            x.bad("rope", 6, 2).due(2, "rope", 2, 0).due(0, "rope", 2, 1).due(6, "rule", 1);
        });
        edge("FEAST: a day of the week (0 to 6; 0 at first).", () -> {
            new Run().due(0, "rule", 3).due(0, "feast", 6).bad("feast", 7).bad("feast", -1).due(6, "rule", 3).due(6, "feast", 0).due(0, "rule", 3);
            new Run("feast 6;").due(6, "rule", 3).due(0, "text").due(0, "rule", 3);
        });
        edge("DAY, BUMPS (0 at first).", () -> {
            new Run().due(0, "rule", 2).due(0, "rule", 4);
            Run x = new Run("plain 10;plain 11;plain 15;cross 1 2 3;feast 6;").due(2, "days", 2).due(2, "rule", 2).due(2, "rule", 4);
            x.put("plain 3;").due(1, "text").due(0, "rule", 2).due(0, "rule", 4);
        });
        edge("SPREAD: how FAR the outermost two are (0, if there are no two).", () -> {
            new Run().due(0, "rule", 5);
            new Run("plain 99;").due(0, "rule", 5).due(0, "runs", 60, 0).due(0, "within", 0);
            new Run("plain 99;plain 98;").due(1, "rule", 5);
            new Run("plain 50;plain 99;plain 40;plain 0;plain 60;").due(99, "rule", 5);
            new Run("plain 50;plain 20;plain 40;plain 70;plain 60;").due(50, "rule", 5);
        });
    }

    private static void tempers() {
        edge("towards greater FATHOMS, if it is AT a greater one than that one, else towards lesser ones.", () -> {
            Run x = new Run("plain 50;plain 49;plain 51;cross 0 1 2;cross 0 2 2;").due(0, "isle", 0, 3).due(0, "isle", 0, 4);
            x.call("sulk", 0, 1, 3);
            x.due(1, "isle", 0, 3).due(1, "isle", 0, 4);
            x.call("sulk", 0, 2, 3);
            x.call("sulk", 0, 1, 2);
            x.due(1, "isle", 0, 3).due(0, "isle", 0, 4);
            x.due(49, "alter", 1, 1, 99).due(5, "isle", 0, 3).due(0, "isle", 0, 4);
            x.due(50, "alter", 0, 1, 0).due(5, "isle", 0, 3).due(0, "isle", 0, 4);
            x.due(99, "alter", 1, 1, 98).due(0, "alter", 0, 1, 99).due(5, "isle", 0, 3).due(1, "isle", 0, 4);
        });
        edge("DRIFT of an ISLE by KIND: plain SULK; proud twice that of a plain one; "
            + "fond half of that of a plain one (of how many FATHOMS it is, down)", () -> drifts(new int[] {0, 1, 2, 3, 12},
            new int[][] {{0, 1, 2, 3, 12}, {0, 2, 4, 6, 24}, {0, 0, 1, 1, 6}, {0, 1, 3, 5, 23}}));
        edge("widow a FATHOM less than a proud one (none, if that has none).", () -> {
            new Run("widow 9;").due(0, "isle", 0, 3).due(0, "isle", 0, 4);
            Run x = new Run("widow 9;plain 3;plain 15;cross 0 1 2;cross 0 2 2;feast 6;").due(0, "isle", 0, 3).due(0, "isle", 0, 4);
            x.due(0, "days", 1).at(9, 3, 15);
            new Run("widow 9;plain 3;cross 0 1 1;feast 6;").due(1, "isle", 0, 3).due(1, "isle", 0, 4).due(0, "days", 1).at(10, 3);
            new Run("widow 9;plain 20;cross 0 1 1;feast 6;").due(1, "isle", 0, 3).due(0, "isle", 0, 4).due(0, "days", 1).at(8, 20);
        });
    }

    /** Drifts by kind and sulk, to the greater and to the lesser side. */
    private static void drifts(int[] sulks, int[][] want) {
        for (int side = 0; side < 2; side++) {
            int at = side == 1 ? 60 : 10;
            Run x = new Run("plain " + at + ";plain 30;plain 31;plain 32;plain 33;feast 6;");
            for (int s = 0; s < sulks.length; s++) {
                for (int j = 1; j < 5; j++) {
                    x.call("sulk", 0, j, Math.max(0, Math.min(3, sulks[s] - 3 * (j - 1))));
                }
                for (int kind = 0; kind < 4; kind++) {
                    x.call("alter", 0, 0, kind);
                    x.due(want[kind][s], "isle", 0, 3).due(want[kind][s] == 0 ? 0 : side, "isle", 0, 4);
                    x.due(Math.max(0, at + (side == 1 ? 1 : -1) * want[kind][s]), "ahead", 0, 1);
                }
            }
        }
    }

    private static void dayByDay() {
        edge("A DAY is a FEAST, if DAY modulo 7 is FEAST. If it is none, each ISLE, by order, DRIFTS", () -> {
            for (int v = 0; v < 7; v++) {
                Run x = new Run("plain 10;plain 90;feast " + v + ";");
                int feasts = 0;
                for (int d = 0; d < 22; d++) {
                    feasts += d % 7 == v ? 1 : 0;
                    x.due(0, "days", 1).at(10 + feasts, 90 - feasts);
                }
            }
            // Where it is none they drift, and where it is one they do not.
            new Run("plain 50;plain 40;cross 0 1 3;feast 1;").due(0, "days", 1).at(53, 40).due(0, "days", 1).at(52, 41).due(0, "days", 6).at(70, 41).due(0, "days", 1).at(69, 42);
            // By order: the second drifts off from where the first has gone.
            new Run("plain 11;plain 10;plain 9;cross 0 1 1;cross 1 2 2;feast 6;").due(1, "days", 1).at(12, 11, 9);
            new Run("plain 10;plain 11;plain 9;cross 1 0 1;cross 0 2 2;feast 6;").due(1, "days", 1).at(10, 12, 9);
            // Late days: 994 is the 142nd time that the week begins, 1001 (only as it would be) the 143rd.
            Run x = new Run("plain 10;plain 90;").times(33, "days", 30);
            x.call("alter", 0, 1, 10);
            x.call("alter", 1, 1, 90);
            x.due(0, "days", 4).at(10, 90).due(0, "days", 1).at(11, 89).due(0, "days", 4).at(11, 89).due(999, "rule", 2);
            x.due(11, "ahead", 0, 2).due(12, "ahead", 0, 3);
        });
        edge("it stops ahead of a FATHOM that is none (below 0, above 99)", () -> {
            Run x = new Run("proud 95;plain 50;proud 4;cross 0 1 3;cross 2 1 3;feast 6;").due(0, "days", 1).at(99, 50, 0);
            x.due(0, "days", 3).at(99, 50, 0).due(0, "rule", 4).due(6, "isle", 0, 3).due(6, "isle", 2, 3);
            new Run("plain 98;plain 50;plain 1;cross 0 1 1;cross 2 1 1;feast 6;").due(0, "days", 1).at(99, 50, 0);
            new Run("proud 94;plain 50;proud 5;cross 0 1 3;cross 2 1 3;feast 6;").due(0, "days", 1).at(99, 50, 0);
            new Run("proud 92;plain 50;proud 7;cross 0 1 3;cross 2 1 3;feast 6;").due(0, "days", 1).at(98, 50, 1);
        });
        edge("or by which a ROPE of it would be longer than its LENGTH and longer than it is now", EdgeTest::ropesHold);
        edge("or AT which another ISLE is (a BUMP).", () -> {
            new Run("plain 10;plain 12;plain 15;cross 1 2 3;feast 6;").due(1, "days", 1).at(10, 11, 15).due(1, "days", 1).due(2, "rule", 4);
            new Run("plain 10;plain 12;plain 15;cross 1 2 1;feast 6;").due(0, "days", 1).at(10, 11, 15).due(1, "days", 1).at(10, 11, 15);
            new Run("plain 11;plain 10;plain 50;plain 0;cross 0 2 3;cross 1 3 3;feast 6;").due(2, "days", 1).at(11, 10, 50, 0);
            // A rope that holds stands first in the sentence: there is no bump where both fit.
            Run x = new Run("plain 10;plain 12;plain 13;rope 0 1 2;cross 1 0 1;feast 6;").due(0, "days", 1).at(10, 12, 13);
            x.due(2, "haul", 0, 3).due(1, "days", 1).at(10, 12, 13);
        });
        edge("each ISLE, by order, that has another one", () -> {
            new Run("plain 0;").due(0, "days", 1).at(0).due(1, "rule", 2);
            new Run("plain 99;").due(0, "days", 8).at(99).due(8, "rule", 2);
            new Run().due(0, "days", 8).due(8, "rule", 2).due(0, "rule", 4);
            // By order: when it is the second one's turn, the first has come to be 1 FAR.
            new Run("plain 10;plain 12;").due(0, "days", 1).at(11, 12);
            new Run("plain 12;plain 10;").due(0, "days", 1).at(11, 10);
        });
        edge("goes one FATHOM towards the nearest other one (of several the first), if it is more than 1 FAR", () -> {
            new Run("proud 10;proud 11;cross 0 1 3;cross 1 0 3;").due(0, "days", 1).at(10, 11).due(0, "rule", 4);
            new Run("plain 10;plain 13;").due(0, "days", 1).at(11, 12);
            new Run("plain 0;plain 99;").due(0, "days", 1).at(1, 98);
            new Run("plain 20;plain 10;plain 30;").due(1, "isle", 0, 5).due(0, "days", 1).at(19, 11, 29);
            new Run("plain 20;plain 30;plain 10;").due(1, "isle", 0, 5).due(0, "days", 1).at(21, 29, 11);
            new Run("plain 20;plain 31;plain 10;").due(2, "isle", 0, 5).due(0, "days", 1).at(19, 30, 11);
        });
        edge("and no ROPE hinders it (as above).", () -> {
            new Run("plain 10;plain 20;plain 50;rope 1 2 30;").due(0, "days", 1).at(11, 20, 49).due(0, "rule", 4);
            new Run("plain 10;plain 20;plain 49;rope 1 2 30;").due(0, "days", 1).at(11, 19, 48);
            new Run("plain 10;plain 20;plain 50;rope 2 1 5;").due(0, "days", 1).at(11, 20, 49);
        });
        edge("DAY is 1 more.", () -> new Run("plain 1;plain 9;").due(0, "days", 1).due(1, "rule", 2).due(0, "days", 1).due(2, "rule", 2)
            .due(0, "days", 30).due(32, "rule", 2).due(0, "days", 0).due(32, "rule", 2));
        edge("BY DAYS: as it would be from now on.", () -> {
            // What only would be changes nothing, and goes on where DAY itself may not.
            Supplier<Run> late = () -> busy().times(33, "days", 30).due(0, "days", 0).due(992, "rule", 2);
            for (Supplier<Run> made : List.<Supplier<Run>>of(EdgeTest::busy, late)) {
                Run x = made.get();
                x.call("runs", 60, 0);
                x.call("ahead", 0, 60);
                x.call("within", 0);
                x.call("match", 9, 0);
                x.call("fray", 0);
                x.call("soothe", 0);
                x.call("holy", 60, 0);
                x.call("kind", 0, 60, 0);
                x.call("slack", 0, 60, 0);
                x.call("luck", 5, 8, 9, 0);
                x.call("mean", 5, 8, 0);
                x.call("kinds", 0);
                x.call("sulks", 0, 1);
                x.call("ask", 0, 0);
                x.call("drift", 5, 60, 0);
                hold(all(x).equals(all(made.get())), "what would be has come to be");
            }
            Run x = new Run("plain 10;plain 90;feast 6;").due(0, "days", 5).due(80, "runs", 1, 0).due(78, "runs", 2, 0).due(0, "days", 1).due(78, "runs", 1, 0);
            x.due(0, "days", 1).due(78, "runs", 6, 0).due(76, "runs", 7, 0);
            crowdRunsAsItWould();
        });
        edge("SEEN (6): behind n DAYS (0 to 20) from now on an ISLE is AT a FATHOM.", () -> {
            Run x = new Run("plain 50;plain 40;cross 0 1 3;feast 6;");
            x.due(1, "see", 1, 0, 53).due(1, "kinds", 0).due(0, "days", 1).due(0, "kinds", 0).due(1, "forget", 0);
            x.due(1, "see", 0, 0, 53).due(2, "see", 20, 1, (int) x.call("ahead", 1, 20)).due(15, "kinds", 0);
            x.bad("see", 21, 0, 53).bad("see", -1, 0, 53);
            x.due(3, "see", 0, 0, 53).due(4, "see", 0, 0, 53).due(5, "see", 0, 0, 53).due(6, "see", 0, 0, 53).due(FULL, "see", 0, 0, 53);
        });
    }

    private static void ropesHold() {
        Run x = new Run("plain 10;plain 12;rope 0 1 4;cross 0 1 3;feast 6;").due(0, "days", 1).at(8, 12).due(0, "days", 2).at(8, 12);
        x.due(4, "haul", 0, 5).due(0, "days", 1).at(7, 12);
        new Run("plain 10;plain 12;rope 1 0 4;cross 0 1 3;feast 6;").due(0, "days", 1).at(8, 12);
        new Run("plain 10;plain 11;rope 0 1 1;cross 0 1 3;cross 1 0 3;feast 6;").due(0, "days", 1).at(10, 11);
        new Run("plain 40;plain 68;rope 0 1 30;cross 0 1 3;feast 6;").due(0, "days", 1).at(38, 68);
        // Too long already: it may not grow, but it may grow less.
        new Run("plain 10;plain 30;rope 0 1 5;cross 1 0 3;feast 6;").due(0, "days", 2).at(10, 30);
        new Run("plain 10;plain 30;plain 40;rope 0 1 5;cross 1 2 3;feast 6;").due(0, "days", 1).at(10, 27, 40);
        // The shortest of several holds; the ropes of others hold nobody.
        new Run("plain 20;plain 10;rope 0 1 30;rope 1 0 12;cross 0 1 3;feast 6;").due(0, "days", 1).at(22, 10);
        new Run("plain 20;plain 10;plain 90;rope 1 2 1;cross 0 1 3;feast 6;").due(0, "days", 1).at(23, 10, 90);
        // A rope that holds is no bump.
        new Run("plain 10;plain 12;rope 0 1 2;cross 0 1 3;feast 6;").due(0, "days", 3).at(10, 12).due(0, "rule", 4);
    }

    private static void sheetTerms() {
        edge("SHEETS 0 to 3 are rows of BYTES (lane 0), SHORTS (1), INTS (2) with 0 to 40 CELLS, or nothing (at first).", () -> {
            Run x = new Run("plain 1;plain 2;");
            for (int k = 0; k < 4; k++) {
                x.due(-11, "lay", k, 0, 0).due(0, "read", k, 0, 0, 1).due(1, "torn");
                x.bad("sheet", k, 3, 1).bad("sheet", k, -1, 1);
                for (int lane = 0; lane < 3; lane++) {
                    x.due(1, "sheet", k, lane, 0).due(-12, "lay", k, 0, 0);
                    x.due(1, "sheet", k, lane, 40).due(1, "lay", k, 39, 0).due(-12, "lay", k, 40, 0).due(1, "lay", k, 1, 1);
                    x.due(1, "read", k, lane, 0, 1).due(0, "torn");
                    x.bad("sheet", k, lane, 41).due(1, "lay", k, 39, 0);
                }
            }
            x.bad("sheet", 4, 0, 1).bad("sheet", -1, 0, 1);
        });
        edge("A FAULT is what the machine finds: 1 NULL (nothing), 2 INDEX, 3 CAST (another lane), 4 SIZE (below 0).", () -> {
            Run x = new Run("plain 1;plain 2;");
            x.due(0, "read", 0, 0, 0, 1).due(1, "torn").due(-11, "lay", 0, 0, 0);
            x.due(-14, "sheet", 0, 0, -1).due(-14, "sheet", 0, 2, LEAST).due(-11, "lay", 0, 0, 0).due(NONE, "count", 3);
            for (int lane = 0; lane < 3; lane++) {
                x.due(1, "sheet", 0, lane, 3).due(1, "lay", 0, 1, 1);
                x.due(-12, "lay", 0, 3, 0).due(-12, "lay", 0, -1, 0).due(-12, "lay", 0, LEAST, 0).due(-12, "lay", 0, MOST, 0);
                for (int as = 0; as < 3; as++) {
                    // Of a row of another lane no cell is come to, so that CAST stands ahead of INDEX.
                    x.due(as == lane ? 1 : 0, "read", 0, as, 0, 1).due(as == lane ? 0 : 3, "torn");
                    x.due(0, "read", 0, as, 3, 1).due(as == lane ? 2 : 3, "torn");
                    x.due(0, "read", 0, as, -1, 1).due(as == lane ? 2 : 3, "torn");
                }
            }
        });
    }

    // ---------------------------------------------------------------- terms: the text

    private static void tokens() {
        edge("THE TAPE has 160 bytes, places from 0.", () -> {
            new Run().put("plain 7" + blanks(152) + ";").due(160, "count", 2).due(FULL, "feed", ';').due(1, "text").at(7);
            fault("A", 1, 0);
            fault(blanks(159) + "A", 1, 159);
            fault(blanks(159) + "a", 2, 159);
            fault(blanks(159) + "7", 2, 159);
            fault(blanks(159) + ";", 2, 159);
            fault("plain" + blanks(155), 2, 160);
            fault(blanks(154) + "plain7", 2, 160);
            fault(blanks(153) + "plain77", 2, 160);
            fault(blanks(152) + "plain777", 1, 157);
            fault("cross 0 1 1;" + blanks(148), 6, 160);
            new Run("plain1;plain2;plain3;plain4;plain5;rope0 1 9;rope0 1 9;rope0 1 9;rope0 1 9;rope0 1 9;rope0 1 9;feast0;cross0 1 1;cross0 2 1;cross0 3 1;cross0 4 1;")
                .due(5, "rule", 0).due(6, "rule", 1).due(4, "count", 5).due(54, "count", 4);
        });
        edge("TOKENS, each as long as may be, blanks (32) between", () -> {
            new Run("plain1;proud02;feast3;").at(1, 2).due(3, "rule", 3);
            new Run("   plain   12   ;   proud   3   ;   ").at(12, 3);
            fault("plainproud 1;", 2, 0);
            fault("pl ain 1;", 2, 0);
            fault("plain 1 2;", 2, 8);
            fault("plain1proud2;", 2, 6);
            fault("cross 012;", 1, 6);
            fault("plain 1;plain2 ; ;", 2, 17);
            for (int c : new int[] {0, 9, 10, 13, 31, 33, 127}) {
                fault("plain" + (char) c + "1;", 1, 5);
                fault("plain 1;" + (char) c, 1, 8);
            }
        });
        edge("NAMES (a .. z), NUMBERS (1 or 2 figures), one ; .", () -> {
            for (int c = 0; c < 128; c++) {
                boolean letter = c >= 'a' && c <= 'z';
                boolean figure = c >= '0' && c <= '9';
                int found = letter || figure || c == ';' ? 2 : 1;
                if (c != ' ') {
                    fault(String.valueOf((char) c), found, 0);
                    // A letter makes the NAME longer, behind a figure the end is met, all else stands where it is.
                    fault("plain" + (char) c, found, letter ? 0 : figure ? 6 : 5);
                }
            }
            new Run("plain 0;plain 01;plain 9;plain 10;plain 99;").at(0, 1, 9, 10, 99);
            fault("plain 001;", 1, 6);
            fault("plain 0000000000000000000000000000001;", 1, 6);
            fault("plain 1;;", 2, 8);
        });
        edge("text: { line }", () -> {
            new Run().due(0, "text").due(0, "fault").due(0, "rule", 0);
            new Run().put(blanks(160)).due(0, "text").due(0, "fault");
            new Run("plain 1;").due(0, "text").due(0, "rule", 0).bad("isle", 0, 0);
            new Run("feast 6;").due(6, "rule", 3).put(" ").due(0, "text").due(0, "rule", 3);
        });
        edge("plain, proud, fond, widow: an ISLE more of that KIND: AT.", () -> {
            for (String kind : new String[] {"plain", "proud", "fond", "widow"}) {
                new Run(kind + " 0;" + kind + " 99;").at(0, 99);
                fault(kind + " 100;", 1, kind.length() + 1);
                fault(kind + ";", 2, kind.length());
                fault(kind, 2, kind.length());
                fault(kind + " 1", 2, kind.length() + 2);
                fault(kind.substring(0, kind.length() - 1) + " 1;", 2, 0);
                fault(kind + "s 1;", 2, 0);
            }
        });
        edge("cross: who (0 to 4), with whom (0 to 4, another one), how much.", () -> {
            String five = "plain 1;plain 2;plain 3;plain 4;plain 5;";
            new Run(five + "cross 0 4 3;cross 4 0 0;cross 3 4 1;").due(3, "cross", 0, 4).due(0, "cross", 4, 0).due(1, "cross", 3, 4).due(4, "count", 5);
            fault(five + "cross 5 0 1;", 3, 46);
            fault(five + "cross 0 5 1;", 3, 48);
            fault(five + "cross 0 1 4;", 3, 50);
            fault(five + "cross 99 0 1;", 3, 46);
            for (int i = 0; i < 5; i++) {
                fault(five + "cross " + i + " " + i + " 1;", 3, 48);
            }
        });
        edge("rope: a ROPE more: two ISLES (0 to 4, unlike), LENGTH.", () -> {
            String five = "plain 1;plain 2;plain 3;plain 4;plain 5;";
            new Run(five + "rope 0 4 1;rope 4 0 30;").due(1, "rope", 0, 2).due(30, "rope", 1, 2).due(4, "rope", 1, 0).due(0, "rope", 1, 1);
            fault(five + "rope 5 0 1;", 3, 45);
            fault(five + "rope 0 5 1;", 3, 47);
            fault(five + "rope 0 4 0;", 3, 49);
            fault(five + "rope 0 4 31;", 3, 49);
            for (int i = 0; i < 5; i++) {
                fault(five + "rope " + i + " " + i + " 1;", 3, 47);
            }
        });
        edge("feast: FEAST.", () -> {
            for (int v = 0; v < 7; v++) {
                new Run("feast " + v + ";").due(v, "rule", 3);
            }
            fault("feast 7;", 3, 6);
            fault("feast 99;", 3, 6);
            fault("feast;", 2, 5);
        });
    }

    private static void faults() {
        edge("FAULTS, the first met as it is read (a TOKEN is read when the one before has been taken)", () -> {
            fault("plain 4;plain 4A", 4, 14);
            fault("cross 0 0 A", 3, 8);
            fault("cross 5 A", 3, 6);
            fault("cross 0 1 4A", 3, 10);
            fault("rope 0 1 31A", 3, 9);
            fault("rope 0 1 0A", 3, 9);
            fault("feast 7A", 3, 6);
            fault("feast 1;feastA", 4, 8);
            fault("cross 0 1 1;cross 0 1A", 4, 20);
            fault("plain 1;plain 2;plain 3;plain 4;plain 5;plainA", 5, 40);
            fault("zA", 2, 0);
            fault("plain 1 A", 1, 8);
            fault("plain 1 2A", 2, 8);
            fault("cross 0 1 1;A", 1, 12);
            fault("cross 0 1 1;feast 7;", 3, 18);
            fault("A plain 1;plain 1;", 1, 0);
        });
        edge("1 no TOKEN, a NUMBER that is too long (its first byte).", () -> {
            fault("plain -1;", 1, 6);
            fault("plain  123;", 1, 7);
            fault("plain123;", 1, 5);
            fault("123", 1, 0);
            fault("cross 0 1 100;", 1, 10);
            fault("rope 0 001 1;", 1, 7);
            fault("feast 000;", 1, 6);
            fault("plain 1;Plain 2;", 1, 8);
            fault("plain 1.5;", 1, 7);
            fault("plain 1:", 1, 7);
        });
        edge("2 a TOKEN that can not stand there (a NAME that begins no line; or the end: the length).", () -> {
            for (String name : new String[] {"p", "lain", "qlain", "qroud", "gond", "vidow", "dross", "sope", "geast", "plaim", "plainplain"}) {
                fault(name + " 1;", 2, 0);
                fault("plain 1; " + name, 2, 9);
            }
            fault("plainn 1;", 2, 0);
            fault("plain 1;feasts 1;", 2, 8);
            fault("plain plain;", 2, 6);
            fault("plain ;", 2, 6);
            fault("plain 1 plain 2;", 2, 8);
            fault("1;", 2, 0);
            fault("; plain 1;", 2, 0);
            fault("plain  ", 2, 7);
            fault("plain 1  ", 2, 9);
            fault("cross", 2, 5);
            fault("cross 0", 2, 7);
            fault("cross 0 1", 2, 9);
            fault("cross 0 1 1", 2, 11);
            fault("cross 0 ;", 2, 8);
            fault("cross 0 1 ;", 2, 10);
            fault("cross 0 1 1 1;", 2, 12);
            fault("rope", 2, 4);
            fault("rope 0", 2, 6);
            fault("rope 0 1 ", 2, 9);
            fault("rope 0 1 9 ", 2, 11);
            fault("rope;", 2, 4);
            fault("feast", 2, 5);
            fault("feast 1", 2, 7);
            fault("feast 1 1;", 2, 8);
        });
        edge("3 a NUMBER out of its bounds (the second ISLE of cross, rope alike with the first).", () -> {
            fault("cross 5 5 1;", 3, 6);
            fault("cross 1 01 1;", 3, 8);
            fault("cross 04 4 1;", 3, 9);
            fault("rope 0 0 1;", 3, 7);
            fault("rope 10 0 1;", 3, 5);
            fault("rope 0 1 99;", 3, 9);
            fault("rope 0 1 00;", 3, 9);
            fault("cross 0 1 04;", 3, 10);
            fault("feast 07;", 3, 6);
        });
        edge("4 feast for the second time (its NAME)", () -> {
            fault("feast 0;feast 0;", 4, 8);
            fault("feast 0;plain 1;  feast", 4, 18);
            new Run("feast 0;").put("feast 1;").due(1, "text").due(1, "rule", 3);
        });
        edge("a FATHOM AT which an ISLE is already (it)", () -> {
            fault("plain 0;widow 0;", 4, 14);
            fault("plain 5;plain 6;fond 05;", 4, 21);
            fault("plain 99;plain 99;", 4, 15);
            new Run("plain 5;").put("plain 5;").due(1, "text").at(5);
        });
        edge("with whom one is told to be CROSS already (with whom).", () -> {
            fault("cross 0 1 0;cross 0 1 0;", 4, 20);
            fault("cross 3 4 1;cross 4 3 1;cross 3 4 1;", 4, 32);
            for (int p = 0; p < 25; p++) {
                for (int q = 0; q < 25; q++) {
                    if (p % 6 != 0 && q % 6 != 0) {
                        // Who with whom is told already, or else only the isles are not there.
                        fault("cross " + p / 5 + " " + p % 5 + " 0;cross " + q / 5 + " " + q % 5 + " 0;", p == q ? 4 : 6, p == q ? 20 : 24);
                    }
                }
            }
            String five = "plain 1;plain 2;plain 3;plain 4;plain 5;";
            new Run(five + "cross 0 1 1;cross 1 0 2;cross 0 2 3;cross 2 1 1;cross 2 0 2;").due(1, "cross", 0, 1).due(2, "cross", 1, 0).due(9, "count", 5);
            new Run("plain 1;plain 2;cross 0 1 1;").put("plain 1;plain 2;cross 0 1 2;").due(3, "text").due(2, "cross", 0, 1);
        });
        edge("5 the 6th ISLE, the 7th rope (its NAME).", () -> {
            for (String kind : new String[] {"plain", "proud", "fond", "widow"}) {
                fault("plain 1;proud 2;fond 3;widow 4;plain 5;" + kind + " 6;", 5, 39);
            }
            String six = "rope 0 1 1;rope 0 1 1;rope 0 1 1;rope 0 1 1;rope 0 1 1;rope 0 1 1;";
            fault("plain 1;plain 2;" + six + "rope 0 1 1;", 5, 82);
            fault(six + "rope", 5, 66);
            new Run("plain 1;plain 2;" + six).due(6, "rule", 1);
        });
        edge("Behind all (the length): 6 an ISLE that there is not.", () -> {
            fault("cross 0 1 1;", 6, 12);
            fault("cross 0 1 1;  ", 6, 14);
            fault("cross 0 1 0;plain 1;", 6, 20);
            fault("plain 1;plain 2;cross 0 2 1;", 6, 28);
            fault("plain 1;plain 2;cross 2 0 1;", 6, 28);
            fault("plain 1;plain 2;rope 1 2 1;", 6, 27);
            fault("plain 1;plain 2;rope 2 1 1;", 6, 27);
            fault("plain 1;plain 2;plain 3;plain 4;rope 3 4 1;", 6, 43);
            new Run("cross 1 2 1;rope 2 0 1;plain 1;plain 2;plain 3;").due(1, "cross", 1, 2);
            new Run("plain 1;plain 2;cross 0 1 1;").put("cross 0 1 1;").due(-22, "text").due(1, "cross", 0, 1);
        });
        edge("A text that is taken tells all, in place of what there was; nothing is SEEN; IMAGES are gone.", () -> {
            Run x = busy();
            x.call("keep", 0);
            x.call("end", 0);
            x.put("plain 7;fond 9;plain 8;").due(3, "text").due(3, "rule", 0).due(0, "rule", 1).due(0, "rule", 2).due(0, "rule", 3).due(0, "rule", 4);
            x.at(7, 9, 8).due(0, "count", 5).due(0, "count", 4).due(0, "count", 0).due(0, "count", 1).due(STATE, "back", 0).due(STATE, "back", 1);
            x.due(15, "kinds", 0).due(0, "keep", 0).due(0, "keep", 1).due(7, "count", 3).due(3, "torn").bad("rope", 0, 0);
            // Where a text is refused, what was SEEN and the IMAGES stay.
            Run y = busy();
            y.call("end", 0);
            y.put("plain 7;fond 9;feast 9;").due(-31, "text").due(1, "count", 0).due(1, "count", 1).due(3, "rule", 0).due(2, "back", 1);
        });
    }

    // ---------------------------------------------------------------- promises: the text

    private static void promisesOfTheText() {
        section = "Promise 1";
        edge("No ISLES; SHEETS of nothing.", () -> {
            Run x = new Run();
            for (int w = 0; w < 6; w++) {
                x.due(0, "rule", w).due(w == 3 ? NONE : 0, "count", w);
            }
            x.bad("isle", 0, 0).bad("rope", 0, 0).bad("cross", 0, 1).bad("far", 0, 1).bad("alter", 0, 0, 0).bad("sulk", 0, 1, 0);
            x.bad("haul", 0, 1).bad("wed", 0, 1, 1).bad("loose", 1).bad("ahead", 0, 0).bad("kind", 0, 0, 0).bad("slack", 0, 0, 0);
            x.bad("see", 0, 0, 0).bad("forget", 1).bad("kinds", 0).bad("sulks", 0, 1).bad("ask", 0, 0).bad("end", 1);
            x.due(0, "runs", 60, 0).due(0, "runs", 60, 1).due(0, "runs", 60, 2).due(0, "runs", 60, 3).due(0, "within", 0);
            x.due(NONE, "match", 1, 0).due(NONE, "fray", 0).due(NONE, "soothe", 0).due(0, "holy", 60, 0).due(0, "holy", 60, 1);
            x.due(1, "luck", 5, 8, 0, 0).due(1, "luck", 5, 8, 0, 1).due(0, "mean", 5, 8, 0).due(1, "mean", 5, 8, 1);
            x.due(STATE, "drift", 1, 1, 0).due(STATE, "back", 0).due(STATE, "back", 1).due(0, "fault").due(0, "torn");
            x.due(0, "loose", 0).due(0, "forget", 0).due(0, "end", 0).due(0, "days", 30).due(30, "rule", 2);
            for (int k = 0; k < 4; k++) {
                x.due(-11, "lay", k, 0, 0).due(0, "read", k, 2, 0, 13).due(1, "torn");
            }
            // No isle is there, so that what is read whole is refused.
            x.due(1, "sheet", 0, 0, 40).due(-20, "read", 0, 0, 0, 1).due(0, "keep", 0).due(30, "back", 0);
        });
        section = "Promise 2";
        edge("A byte (0 to 127) comes behind THE TAPE: how many it has.", () -> {
            ends(EdgeTest::busy, 0, 127, "feed", HERE);
            new Run().due(1, "feed", 0).due(2, "feed", 127).due(2, "count", 2).due(-10, "text");
            new Run().put("feast 6").due(8, "feed", ';').due(1, "text").due(6, "rule", 3);
        });
        edge("BAD; FULL: more than 160.", () -> {
            Run x = new Run();
            for (int n = 1; n <= 160; n++) {
                x.due(n, "feed", 32);
            }
            x.due(FULL, "feed", 32).due(FULL, "feed", 0).bad("feed", 128).bad("feed", -1).due(160, "count", 2);
            x.due(160, "end", 159).due(160, "feed", 32).due(FULL, "feed", 32).due(0, "text").due(1, "feed", 32);
        });
        section = "Promise 3";
        edge("THE TAPE keeps its first n bytes: how many it had. BAD.", () -> {
            ends(EdgeTest::busy, 0, 8, "end", HERE);
            new Run().due(0, "end", 0).bad("end", 1).bad("end", -1).due(0, "end", 0);
            new Run().times(160, "feed", 32).bad("end", 161).due(160, "end", 160).due(160, "end", 0).due(0, "count", 2).due(0, "end", 0);
            Run x = new Run().put("plain 12;plain 3").due(16, "end", 9).bad("end", 10).due(9, "end", 9).due(9, "count", 2);
            x.put("fond 4;").due(2, "text").at(12, 4).due(2, "isle", 1, 0);
        });
        section = "Promise 4";
        edge("THE TAPE (empty then) tells all: how many lines", () -> {
            new Run().due(0, "text").due(0, "fault").due(0, "count", 2);
            Run x = new Run().put("plain 1;feast 2;").due(2, "text").due(0, "count", 2).due(1, "rule", 0);
            x.due(0, "text").due(0, "rule", 0).due(0, "rule", 3).due(0, "fault");
            new Run("feast 0;cross 0 1 0;plain 1;plain 2;").due(0, "fault").due(2, "rule", 0);
        });
        edge("-10 less the place of its FAULT: that which was told stays.", () -> {
            Run x = new Run("plain 1;proud 2;cross 0 1 3;rope 0 1 4;feast 5;");
            x.put("A").due(-10, "text").due(0, "count", 2).put(blanks(160)).due(160, "end", 159).due(160, "feed", 'A').due(-169, "text");
            x.put("plain 8;fond 9;cross 0 1 1;rope 1 0 9;feast 3;widow").due(-61, "text").due(2, "fault");
            x.at(1, 2).due(0, "isle", 0, 0).due(1, "isle", 1, 0).due(3, "cross", 0, 1).due(1, "rule", 1).due(4, "rope", 0, 2).due(5, "rule", 3);
        });
        section = "Promise 5";
        edge("The FAULT of the latest text(); 0.", () -> {
            Run x = new Run().due(0, "fault");
            x.put("A").due(0, "fault").due(-10, "text").due(1, "fault").due(1, "fault");
            x.put("z").due(1, "fault").due(-10, "text").due(2, "fault");
            x.put("feast 7;").due(-16, "text").due(3, "fault").put("plain 1;plain 1;").due(-24, "text").due(4, "fault");
            x.put("plain 1;plain 2;plain 3;plain 4;plain 5;plain 6;").due(-50, "text").due(5, "fault");
            x.put("rope 0 1 1;").due(-21, "text").due(6, "fault").bad("feed", -1).bad("end", 9).due(6, "fault");
            x.due(0, "text").due(0, "fault");
        });
        section = "Promise 6";
        edge("0 ISLES, 1 ROPES, 2 DAY, 3 FEAST, 4 BUMPS, 5 SPREAD. BAD.", () -> {
            ends(EdgeTest::busy, 0, 5, "rule", HERE);
            Run x = new Run("plain 10;plain 11;plain 15;cross 1 2 3;rope 0 2 9;rope 0 1 9;feast 4;").due(3, "days", 3);
            x.due(3, "rule", 0).due(2, "rule", 1).due(3, "rule", 2).due(4, "rule", 3).due(3, "rule", 4).due(5, "rule", 5);
        });
    }

    private static void promisesOfWhatIsAsked() {
        section = "Promise 7";
        edge("2 how many ROPES it has", () -> {
            Run x = new Run("plain 1;plain 2;plain 3;").due(0, "isle", 0, 2);
            x.times(6, "wed", 1, 0, 1).due(6, "isle", 0, 2).due(6, "isle", 1, 2).due(0, "isle", 2, 2).due(6, "loose", 1).due(1, "isle", 0, 2);
        });
        edge("4 whether that is towards greater ones (1), lesser ones (0; also for none)", () -> {
            new Run("fond 9;plain 3;cross 0 1 1;").due(0, "isle", 0, 3).due(0, "isle", 0, 4);
            new Run("fond 9;plain 3;cross 0 1 2;").due(1, "isle", 0, 3).due(1, "isle", 0, 4);
            new Run("fond 9;plain 30;cross 0 1 2;").due(1, "isle", 0, 3).due(0, "isle", 0, 4);
            new Run("proud 9;").due(0, "isle", 0, 3).due(0, "isle", 0, 4);
            // It is the DRIFT that is told, also where it can not go.
            new Run("proud 99;plain 98;plain 0;cross 0 1 3;cross 2 1 3;").due(6, "isle", 0, 3).due(1, "isle", 0, 4).due(3, "isle", 2, 3).due(0, "isle", 2, 4);
        });
        edge("5 the nearest other one (NONE: there is none).", () -> {
            new Run("plain 9;").due(NONE, "isle", 0, 5);
            new Run("plain 0;plain 99;").due(1, "isle", 0, 5).due(0, "isle", 1, 5);
            new Run("plain 9;plain 15;plain 3;").due(1, "isle", 0, 5).due(0, "isle", 1, 5).due(0, "isle", 2, 5);
            new Run("plain 9;plain 3;plain 15;plain 10;").due(3, "isle", 0, 5).due(0, "isle", 3, 5);
        });
        edge("BAD.", () -> {
            ends(EdgeTest::busy, 0, 2, "isle", HERE, 0);
            ends(EdgeTest::busy, 0, 5, "isle", 2, HERE);
            new Run().bad("isle", 0, 0).bad("isle", 0, 5);
        });
        section = "Promise 8";
        edge("BAD (also alike).", () -> {
            ends(EdgeTest::busy, 0, 2, "cross", HERE, 1);
            ends(EdgeTest::busy, 0, 2, "cross", 1, HERE);
            busy().bad("cross", 0, 0).bad("cross", 1, 1).bad("cross", 2, 2).bad("cross", 3, 3);
        });
        section = "Promise 9";
        edge("Of a ROPE: its ISLES (what 0, 1), LENGTH (2). BAD.", () -> {
            ends(EdgeTest::busy, 0, 1, "rope", HERE, 2);
            ends(EdgeTest::busy, 0, 2, "rope", 1, HERE);
            busy().due(2, "rope", 1, 0).due(0, "rope", 1, 1).due(12, "rope", 1, 2).due(2, "loose", 1).bad("rope", 1, 0).due(0, "rope", 0, 0);
            new Run("plain 1;").bad("rope", 0, 0);
        });
        section = "Promise 10";
        edge("How FAR two ISLES are. BAD (also alike).", () -> {
            ends(EdgeTest::busy, 0, 2, "far", HERE, 1);
            ends(EdgeTest::busy, 0, 2, "far", 1, HERE);
            busy().bad("far", 0, 0).bad("far", 1, 1).bad("far", 2, 2).bad("far", 3, 3);
            new Run("plain 0;plain 99;plain 1;").due(99, "far", 0, 1).due(99, "far", 1, 0).due(1, "far", 2, 0).due(98, "far", 1, 2);
        });
    }

    private static void promisesOfChanges() {
        section = "Promise 11";
        edge("KIND, AT (what 0, 1) of an ISLE becomes v: what it was.", () -> {
            ends(EdgeTest::busy, 0, 1, "alter", 0, HERE, 2);
            ends(EdgeTest::busy, 0, 3, "alter", 2, 0, HERE);
            ends(EdgeTest::busy, 0, 99, "alter", 2, 1, HERE);
            ends(EdgeTest::busy, 0, 2, "alter", HERE, 0, 1);
            Run x = new Run("plain 5;plain 6;");
            for (int kind : new int[] {0, 3, 0}) {
                x.due(x.call("isle", 0, 0), "alter", 0, 0, kind).due(kind, "isle", 0, 0).due(0, "isle", 1, 0);
            }
        });
        edge("BAD (also a FATHOM AT which another one is).", () -> {
            Run x = new Run("plain 5;plain 6;plain 0;").bad("alter", 0, 1, 6).bad("alter", 0, 1, 0).bad("alter", 2, 1, 5).at(5, 6, 0);
            x.due(5, "alter", 0, 1, 5).due(6, "alter", 1, 1, 7).due(5, "alter", 0, 1, 6).at(6, 7, 0);
            // A KIND is no FATHOM: that another one is AT it does not matter.
            new Run("plain 1;plain 3;").due(0, "alter", 0, 0, 3).due(0, "alter", 1, 0, 1);
        });
        section = "Promise 12";
        edge("How CROSS an ISLE is with another one becomes v: what it was. BAD (also alike).", () -> {
            ends(EdgeTest::busy, 0, 2, "sulk", HERE, 1, 3);
            ends(EdgeTest::busy, 0, 2, "sulk", 1, HERE, 3);
            ends(EdgeTest::busy, 0, 3, "sulk", 2, 0, HERE);
            busy().bad("sulk", 0, 0, 1).bad("sulk", 2, 2, 0).due(0, "sulk", 2, 0, 3).due(3, "sulk", 2, 0, 0).due(0, "cross", 2, 0).due(1, "cross", 0, 2);
        });
        section = "Promise 13";
        edge("LENGTH of a ROPE becomes v: what it was. BAD.", () -> {
            ends(EdgeTest::busy, 0, 1, "haul", HERE, 3);
            ends(EdgeTest::busy, 1, 30, "haul", 1, HERE);
            busy().due(12, "haul", 1, 1).due(1, "haul", 1, 30).due(30, "rope", 1, 2).due(6, "rope", 0, 2);
            new Run("plain 1;plain 2;").bad("haul", 0, 3);
        });
        section = "Promise 14";
        edge("A ROPE more: how many there are. BAD (also alike)", () -> {
            ends(EdgeTest::busy, 0, 2, "wed", HERE, 1, 9);
            ends(EdgeTest::busy, 0, 2, "wed", 1, HERE, 9);
            ends(EdgeTest::busy, 1, 30, "wed", 1, 2, HERE);
            busy().bad("wed", 0, 0, 9).bad("wed", 2, 2, 9).due(3, "wed", 0, 1, 6).due(4, "wed", 1, 0, 6).due(4, "rule", 1);
            new Run("plain 1;").bad("wed", 0, 0, 1).bad("wed", 0, 1, 1);
        });
        edge("FULL.", () -> {
            Run x = new Run("plain 1;plain 2;");
            for (int n = 1; n <= 6; n++) {
                x.due(n, "wed", 0, 1, n);
            }
            x.due(FULL, "wed", 0, 1, 7).due(FULL, "wed", 1, 0, 30).due(21, "count", 4).due(6, "loose", 5).due(6, "wed", 1, 0, 30).due(45, "count", 4);
        });
        section = "Promise 15";
        edge("ROPES are the first n alone: how many there were. BAD.", () -> {
            ends(EdgeTest::busy, 0, 2, "loose", HERE);
            new Run("plain 1;").due(0, "loose", 0).bad("loose", 1).bad("loose", -1);
            Run x = busy().due(2, "loose", 2).due(2, "rule", 1).due(2, "loose", 1).due(6, "rope", 0, 2).bad("rope", 1, 2).bad("loose", 2);
            x.due(1, "loose", 0).due(0, "rule", 1).due(0, "loose", 0).bad("rope", 0, 2);
        });
        section = "Promise 16";
        edge("FEAST becomes v: what it was. BAD.", () -> {
            ends(EdgeTest::busy, 0, 6, "feast", HERE);
            busy().due(5, "feast", 0).due(0, "feast", 6).due(6, "rule", 3);
        });
    }

    // ---------------------------------------------------------------- promises: days, what is best

    private static void promisesOfDays() {
        section = "Promise 17";
        edge("n DAYS (0 to 30): how many BUMPS in them. BAD", () -> {
            ends(EdgeTest::busy, 0, 30, "days", HERE);
            Run x = new Run("plain 10;plain 11;plain 15;cross 1 2 3;feast 6;").due(0, "days", 0).due(0, "rule", 2).due(2, "days", 2);
            x.due(0, "days", 0).due(2, "rule", 4).due(2, "rule", 2);
            // Of 30 days from the second on, days 6, 13, 20 and 27 are feasts.
            x.due(26, "days", 30).due(28, "rule", 4).due(32, "rule", 2);
        });
        edge("FULL: DAY would be 1000 or more.", () -> {
            Run x = new Run("plain 10;plain 20;").times(33, "days", 30).due(990, "rule", 2);
            x.due(FULL, "days", 10).due(FULL, "days", 11).due(FULL, "days", 30).due(990, "rule", 2).due(0, "days", 9).due(999, "rule", 2);
            x.due(FULL, "days", 1).due(FULL, "days", 30).due(0, "days", 0).due(999, "rule", 2).bad("days", 31);
            x.call("keep", 0);
            x.due(999, "back", 0).put("plain 1;").due(1, "text").due(0, "days", 1).due(1, "rule", 2);
        });
        section = "Promise 18";
        edge("BY DAYS, n of them (0 to 60): SPREAD then (what 0)", () -> {
            ends(EdgeTest::busy, 0, 60, "runs", HERE, 0);
            // Feasts on days 3, 10 to 59: each brings the two 2 fathoms nearer, and the last day is the ninth feast.
            new Run("plain 10;plain 29;feast 3;").due(19, "runs", 0, 0).due(3, "runs", 59, 0).due(1, "runs", 60, 0).due(0, "rule", 2);
        });
        edge("BUMPS in them (1)", () -> {
            Run x = new Run("plain 10;plain 11;plain 15;cross 1 2 3;feast 3;").due(0, "runs", 0, 1).due(51, "runs", 60, 1).due(51, "runs", 59, 1).due(50, "runs", 58, 1);
            x.due(2, "days", 2).due(0, "runs", 0, 1).due(1, "runs", 1, 1).due(2, "rule", 4);
        });
        edge("the least SPREAD behind any of them, now too (2)", () -> {
            Run now = new Run("plain 50;plain 52;cross 0 1 1;feast 6;").due(2, "runs", 0, 2).due(2, "runs", 3, 2).due(5, "runs", 3, 0);
            now.due(2, "runs", 60, 2);
            new Run("plain 50;plain 52;cross 0 1 1;").due(1, "runs", 3, 2).due(3, "runs", 3, 0);
            new Run("plain 10;plain 29;feast 3;").due(1, "runs", 60, 2).due(3, "runs", 59, 2).due(19, "runs", 3, 2).due(17, "runs", 4, 2);
        });
        edge("how many ISLES are AT another FATHOM than now (3). BAD.", () -> {
            ends(EdgeTest::busy, 0, 3, "runs", 9, HERE);
            // The first drifts off and comes in again: it is where it was.
            Run x = new Run("plain 50;plain 40;cross 0 1 1;feast 1;").due(0, "runs", 0, 3).due(1, "runs", 1, 3).due(1, "runs", 2, 3).due(2, "runs", 3, 3);
            x.due(50, "ahead", 0, 2).due(41, "ahead", 1, 2);
            new Run("plain 1;plain 11;plain 21;plain 31;plain 41;").due(5, "runs", 1, 3).due(0, "runs", 0, 3);
        });
        section = "Promise 19";
        edge("BY DAYS: AT which FATHOM an ISLE is behind n of them (0 to 60). BAD.", () -> {
            ends(EdgeTest::busy, 0, 60, "ahead", 0, HERE);
            ends(EdgeTest::busy, 0, 2, "ahead", HERE, 9);
            new Run("plain 10;plain 29;feast 3;").due(10, "ahead", 0, 0).due(29, "ahead", 1, 0).due(18, "ahead", 0, 59).due(19, "ahead", 0, 60).due(20, "ahead", 1, 60);
        });
        section = "Promise 20";
        edge("BY DAYS: behind how many (0 to 60) SPREAD is v (0 to 99) or less first.", () -> {
            ends(EdgeTest::busy, 0, 99, "within", HERE);
            Run x = new Run("plain 10;plain 29;feast 3;").due(0, "within", 99).due(0, "within", 19).due(4, "within", 18).due(4, "within", 17).due(11, "within", 16);
            x.due(60, "within", 2).due(60, "within", 1).due(NONE, "within", 0);
            new Run("plain 0;plain 99;").due(0, "within", 99).due(1, "within", 98);
            // Nearest at first, then farther and nearer again: the first time is told.
            new Run("plain 50;plain 52;cross 0 1 1;feast 6;").due(0, "within", 2);
        });
        edge("BAD; NONE: behind none.", () -> {
            new Run("plain 10;plain 29;feast 4;").due(NONE, "within", 1).due(NONE, "within", 2).due(54, "within", 3).bad("within", -1).bad("within", 100);
            new Run("plain 10;plain 11;").due(NONE, "within", 0).due(0, "within", 1);
            new Run("plain 10;").due(0, "within", 0);
        });
    }

    private static void promisesOfTheBest() {
        section = "Promise 21";
        edge("so that SPREAD behind 30 DAYS is least, less than as it is", () -> {
            // Of 30 days 4 are feasts: 2 and 26 and less 8 is 20; a rope of 20 does not better that, one of 19 does.
            Run x = new Run("plain 50;plain 52;cross 0 1 1;feast 6;").due(19, "runs", 29, 0).due(20, "runs", 30, 0).due(21, "runs", 31, 0);
            x.due(NONE, "match", 30, 0).due(NONE, "match", 20, 0).due(NONE, "match", 20, 1).due(1, "match", 19, 0).due(19, "match", 19, 1);
            // The feast on day 30 is too late for both, that on day 29 is not.
            new Run("plain 50;plain 52;cross 0 1 1;feast 2;").due(20, "runs", 30, 0).due(1, "match", 19, 0).due(19, "match", 19, 1);
            new Run("plain 50;plain 52;cross 0 1 1;feast 1;").due(17, "runs", 30, 0).due(1, "match", 16, 0).due(14, "match", 16, 1);
        });
        edge("10 times the lesser and the greater, of several the least (what 0), that SPREAD (1).", () -> {
            ends(EdgeTest::busy, 0, 1, "match", 9, HERE);
            Run x = new Run("plain 40;plain 50;plain 51;cross 0 1 1;feast 6;").due(1, "match", 1, 0).due(7, "match", 1, 1);
            x.call("keep", 0);
            for (int j = 1; j < 3; j++) {
                x.due(1, "wed", 0, j, 1).due(7, "runs", 30, 0).due(0, "back", 0);
            }
            new Run("plain 51;plain 50;plain 52;cross 2 1 1;feast 6;").due(12, "match", 10, 0).due(10, "match", 10, 1);
        });
        edge("BAD; FULL; NONE: by none.", () -> {
            ends(EdgeTest::busy, 1, 30, "match", HERE, 0);
            new Run().due(NONE, "match", 1, 0).bad("match", 0, 0);
            new Run("plain 4;").due(NONE, "match", 1, 0).due(NONE, "match", 1, 1);
            Run x = new Run("plain 50;plain 52;cross 0 1 1;feast 6;").times(5, "wed", 0, 1, 30).due(1, "match", 5, 0).due(6, "wed", 0, 1, 30);
            x.due(FULL, "match", 5, 0).due(FULL, "match", 5, 1).due(FULL, "match", 30, 0).bad("match", 5, 2).bad("match", 31, 0).due(6, "rule", 1);
        });
        section = "Promise 22";
        edge("The ROPE that had better go so that there are fewest BUMPS in 30 DAYS, fewer than as it is", () -> {
            // The fourth isle bumps on each of 26 days that are no feasts; the second one too, while rope 1 holds the first.
            Run x = new Run("plain 60;plain 62;plain 65;plain 90;plain 91;cross 0 1 1;cross 1 2 1;cross 3 0 1;rope 1 2 30;rope 0 2 5;rope 3 4 9;feast 6;");
            x.due(1, "fray", 0).due(26, "fray", 1).due(3, "rule", 1);
            // One bump fewer is fewer.
            Run y = new Run("fond 48;fond 58;fond 60;cross 1 2 2;rope 1 0 6;").due(19, "runs", 30, 1).due(0, "fray", 0).due(18, "fray", 1);
            y.due(1, "loose", 0).due(18, "runs", 30, 1).due(NONE, "fray", 0);
        });
        edge("of several the first (what 0), how many (1).", EdgeTest::frayOfSeveral);
        edge("BAD; NONE: none.", () -> {
            ends(EdgeTest::busy, 0, 1, "fray", HERE);
            new Run().due(NONE, "fray", 0).due(NONE, "fray", 1);
            new Run("plain 10;plain 11;plain 15;cross 1 2 3;feast 6;").due(NONE, "fray", 0).due(26, "runs", 30, 1);
            // With a rope, but as many bumps without it.
            new Run("plain 10;plain 11;plain 15;cross 1 2 3;rope 0 1 9;feast 6;").due(NONE, "fray", 0).due(NONE, "fray", 1).due(1, "rule", 1);
        });
        section = "Promise 23";
        edge("Who is no longer to be CROSS with whom so that SPREAD behind 30 DAYS is least, less than as it is", () -> {
            // Soothed, the two come in by 2 on each feast of 30 days: on 1, 8, 15, 22, 29, or on 2, 9, 16, 23 (and 30, too late).
            new Run("plain 50;plain 90;cross 0 1 1;feast 1;").due(1, "soothe", 0).due(30, "soothe", 1);
            new Run("plain 50;plain 90;cross 0 1 1;feast 2;").due(1, "soothe", 0).due(32, "soothe", 1);
            // A fond one that is cross by 1 does not drift: soothed it is as far, whatever it was a day before or behind.
            new Run("fond 47;fond 63;cross 0 1 1;feast 1;").due(8, "runs", 29, 0).due(6, "runs", 30, 0).due(NONE, "soothe", 0);
            new Run("fond 47;fond 63;cross 0 1 1;feast 2;").due(8, "runs", 30, 0).due(6, "runs", 31, 0).due(NONE, "soothe", 0);
            // One fathom less is less, though a day later it would be none.
            new Run("fond 50;fond 53;fond 57;cross 1 0 2;feast 2;").due(3, "runs", 30, 0).due(2, "runs", 31, 0).due(10, "soothe", 0).due(2, "soothe", 1);
            // Held by its rope, it is as far whether it is cross or not.
            new Run("plain 50;plain 51;rope 0 1 1;cross 0 1 3;").due(NONE, "soothe", 0).due(NONE, "soothe", 1);
        });
        edge("10 times who and with whom, of several the least (what 0), that SPREAD (1).", () -> {
            Run x = new Run("plain 50;plain 52;plain 53;cross 0 1 1;cross 0 2 1;feast 6;").due(1, "soothe", 0).due(25, "soothe", 1);
            x.call("keep", 0);
            for (int j = 1; j < 3; j++) {
                x.due(1, "sulk", 0, j, 0).due(25, "runs", 30, 0).due(0, "back", 0);
            }
            new Run("plain 10;plain 12;plain 11;plain 51;plain 52;cross 4 3 1;feast 6;").due(43, "soothe", 0);
            new Run("plain 50;plain 48;cross 1 0 1;feast 6;").due(10, "soothe", 0).due(1, "soothe", 1);
        });
        edge("BAD; NONE: by none.", () -> {
            ends(EdgeTest::busy, 0, 1, "soothe", HERE);
            new Run().due(NONE, "soothe", 0).due(NONE, "soothe", 1);
            new Run("plain 5;").due(NONE, "soothe", 0);
            new Run("plain 5;plain 9;").due(NONE, "soothe", 0).due(NONE, "soothe", 1);
        });
    }

    private static void frayOfSeveral() {
        // The first isle is held by a rope to the third, and that by a rope to the fourth: without either rope the second
        // one does not come up to it.
        String isles = "plain 50;plain 52;plain 60;plain 70;cross 0 1 1;cross 1 3 1;cross 2 3 1;feast 6;";
        String[] ropes = {"rope 0 2 10;", "rope 2 3 10;"};
        new Run(isles + ropes[0]).due(0, "runs", 30, 1);
        new Run(isles + ropes[1]).due(0, "runs", 30, 1);
        for (int first = 0; first < 2; first++) {
            Run x = new Run(isles + ropes[first] + ropes[1 - first]);
            hold(x.call("runs", 30, 1) > 0, "there are bumps with both");
            x.due(0, "fray", 0).due(0, "fray", 1);
        }
        // The last of all may be the one.
        new Run("plain 60;plain 61;plain 65;cross 0 1 1;cross 1 2 1;rope 1 2 30;rope 0 2 5;feast 6;").due(1, "fray", 0).due(0, "fray", 1);
        // BUMPS that there were are not counted; behind the one that goes the others stay as they are.
        Run y = new Run("plain 60;plain 61;plain 65;plain 90;plain 93;cross 0 1 1;cross 1 2 1;cross 3 0 1;rope 0 2 5;rope 2 3 25;rope 4 2 30;feast 6;");
        y.due(1, "days", 1).due(1, "rule", 4).call("keep", 0);
        long[] bumps = new long[3];
        int[][] ropesOfIt = {{0, 2, 5}, {2, 3, 25}, {4, 2, 30}};
        for (int gone = 0; gone < 3; gone++) {
            y.call("loose", 0);
            for (int k = 0; k < 3; k++) {
                if (k != gone) {
                    y.call("wed", ropesOfIt[k]);
                }
            }
            bumps[gone] = y.call("runs", 30, 1);
            y.call("back", 0);
        }
        hold(bumps[0] < y.call("runs", 30, 1) && bumps[0] < bumps[1] && bumps[0] < bumps[2], "the first had better go");
        y.due(0, "fray", 0).due(bumps[0], "fray", 1);
    }

    private static void promisesOfChoices() {
        section = "Promise 24";
        edge("The FEAST by which SPREAD behind n DAYS (0 to 60) is least, of several the first (what 0), that SPREAD (1). BAD.", () -> {
            ends(EdgeTest::busy, 0, 60, "holy", HERE, 0);
            ends(EdgeTest::busy, 0, 60, "holy", HERE, 1);
            ends(EdgeTest::busy, 0, 1, "holy", 9, HERE);
            Run x = new Run("plain 10;plain 90;feast 3;").due(0, "holy", 0, 0).due(80, "holy", 0, 1).due(0, "holy", 1, 0).due(78, "holy", 1, 1);
            // Of 60 days 4 make 9 feasts, of which that on day 0 is the first; from day 3 on it is that on day 3.
            x.due(0, "holy", 60, 0).due(62, "holy", 60, 1).due(0, "holy", 59, 0).due(62, "holy", 59, 1).due(0, "days", 3);
            x.due(3, "holy", 1, 0).due(3, "holy", 4, 0).due(0, "holy", 5, 0).due(0, "holy", 7, 0).due(78, "holy", 7, 1).due(3, "rule", 3);
            new Run("plain 0;plain 99;").due(0, "days", 0).due(99, "holy", 0, 1).due(0, "holy", 0, 0);
            new Run("plain 5;").due(0, "holy", 60, 0).due(0, "holy", 60, 1);
            // Without any feast the last one would be held at 53, 6 from the second; but there is no such FEAST.
            new Run("plain 57;proud 59;proud 55;fond 54;cross 3 0 2;rope 2 3 2;").due(0, "holy", 9, 0).due(7, "holy", 9, 1);
            Run last = new Run("plain 10;plain 90;feast 3;").due(0, "days", 6).due(6, "holy", 1, 0).due(76, "holy", 1, 1);
            last.due(0, "days", 1).due(0, "holy", 1, 0);
        });
        section = "Promise 25";
        edge("The KIND of an ISLE by which SPREAD behind n DAYS (0 to 60) is least, of several the first (what 0), that SPREAD (1). BAD.", () -> {
            ends(EdgeTest::busy, 0, 2, "kind", HERE, 9, 0);
            ends(EdgeTest::busy, 0, 60, "kind", 0, HERE, 0);
            ends(EdgeTest::busy, 0, 60, "kind", 0, HERE, 1);
            ends(EdgeTest::busy, 0, 1, "kind", 0, 9, HERE);
            Run x = new Run("widow 50;plain 40;cross 0 1 3;feast 6;").due(0, "kind", 0, 0, 0).due(10, "kind", 0, 0, 1).due(2, "kind", 0, 1, 0).due(11, "kind", 0, 1, 1);
            x.due(0, "kind", 1, 60, 0).due(3, "isle", 0, 0);
            new Run("fond 0;plain 99;").due(99, "kind", 0, 0, 1).due(0, "kind", 0, 0, 0);
            // The last kind may be the one: the others are farther by all of them.
            Run last = new Run("proud 52;plain 60;widow 46;proud 62;cross 0 2 3;cross 2 3 2;feast 1;").due(3, "kind", 0, 9, 0).due(33, "kind", 0, 9, 1);
            for (int kind = 0; kind < 4; kind++) {
                last.call("alter", 0, 0, kind);
                hold(kind == 3 ? last.call("runs", 9, 0) == 33 : last.call("runs", 9, 0) > 33, "runs(9, 0) of kind " + kind);
            }
            // It is not one of the outermost: all kinds are alike, and plain is the first.
            new Run("widow 10;plain 30;plain 31;plain 0;cross 0 3 3;feast 6;").due(0, "kind", 0, 1, 0).due(31, "kind", 0, 1, 1);
            new Run("plain 5;").due(0, "kind", 0, 60, 0).due(0, "kind", 0, 60, 1);
        });
        section = "Promise 26";
        edge("The greatest LENGTH (1 to 30) of a ROPE by which SPREAD behind n DAYS (0 to 60) is v (0 to 99) or less.", () -> {
            Run x = new Run("plain 10;plain 11;rope 0 1 4;cross 0 1 3;feast 6;").due(30, "slack", 0, 1, 4).due(3, "slack", 0, 1, 3).due(1, "slack", 0, 1, 1);
            x.due(30, "slack", 0, 0, 1).due(30, "slack", 0, 60, 99).due(30, "slack", 0, 1, 99);
            Run y = new Run("plain 50;plain 40;rope 1 0 9;cross 0 1 3;feast 6;");
            y.due(30, "slack", 0, 9, 30).due(29, "slack", 0, 9, 29).due(30, "slack", 0, 6, 28).due(27, "slack", 0, 6, 27).due(10, "slack", 0, 6, 10);
        });
        edge("BAD; NONE: by none.", () -> {
            ends(EdgeTest::busy, 0, 1, "slack", HERE, 9, 50);
            ends(EdgeTest::busy, 0, 60, "slack", 0, HERE, 50);
            ends(EdgeTest::busy, 0, 99, "slack", 0, 9, HERE);
            new Run("plain 10;plain 11;rope 0 1 4;cross 0 1 3;feast 6;").due(NONE, "slack", 0, 1, 0).due(NONE, "slack", 0, 0, 0).bad("slack", 1, 0, 0);
            new Run("plain 10;plain 30;rope 0 1 4;cross 0 1 3;feast 6;").due(NONE, "slack", 0, 1, 19).due(20, "slack", 0, 1, 20).due(4, "rope", 0, 2);
        });
    }

    // ---------------------------------------------------------------- promises: storms, what was seen, a seed

    private static void promisesOfStorms() {
        section = "Promise 27";
        edge("Each of n DAYS (0 to 8) is a storm by v out of ten (0 to 10), by itself (no ISLE moves in it)", () -> {
            for (int what = 0; what < 2; what++) {
                ends(EdgeTest::busy, 0, 10, "luck", HERE, 3, 9, what);
                ends(EdgeTest::busy, 0, 8, "luck", 3, HERE, 9, what);
            }
            Run x = new Run("plain 10;plain 12;cross 0 1 1;feast 6;");
            for (int n = 0; n <= 8; n++) {
                int then = (int) x.call("runs", n, 0);
                x.due(1, "luck", 0, n, then, 0).due(0, "luck", 0, n, then - 1, 0).due(1, "luck", 10, n, 2, 0).due(0, "luck", 10, n, 1, 0);
            }
            x.due(1, "luck", 1, 1, 2, 0).due(10, "luck", 1, 1, 2, 1).due(9, "luck", 9, 1, 2, 0).due(10, "luck", 9, 1, 2, 1);
            x.due(19, "luck", 1, 2, 3, 0).due(100, "luck", 1, 2, 3, 1).due(99, "luck", 9, 2, 3, 0).due(100, "luck", 9, 2, 3, 1);
            // Eight days: on the first the two stay, on six they drift off if there is no storm, on the last is a feast.
            Run y = new Run("plain 50;plain 51;cross 0 1 1;");
            // The fifth of five alone drifts, by each day without a storm.
            Run five = new Run("plain 10;plain 20;plain 30;plain 40;plain 50;cross 4 0 1;feast 6;");
            five.due(1, "luck", 5, 2, 40, 0).due(4, "luck", 5, 2, 40, 1).due(3, "luck", 5, 2, 41, 0).due(4, "luck", 5, 2, 41, 1).due(1, "luck", 5, 2, 42, 0);
            y.due(11431, "luck", 1, 8, 1, 0).due(10000000, "luck", 1, 8, 1, 1).due(5767119, "luck", 9, 8, 1, 0).due(10000000, "luck", 9, 8, 1, 1);
        });
        edge("that SPREAD behind them is w (0 to 99) or less: 0, 1. BAD.", () -> {
            ends(EdgeTest::busy, 0, 99, "luck", 3, 3, HERE, 0);
            ends(EdgeTest::busy, 0, 99, "luck", 3, 3, HERE, 1);
            ends(EdgeTest::busy, 0, 1, "luck", 3, 3, 9, HERE);
            Run x = new Run("plain 0;plain 99;").due(1, "luck", 3, 0, 99, 0).due(0, "luck", 3, 0, 98, 0).due(1, "luck", 3, 0, 98, 1);
            x.due(7, "luck", 3, 1, 98, 0).due(7, "luck", 3, 1, 97, 0).due(0, "luck", 3, 1, 96, 0).due(1, "luck", 3, 1, 99, 0);
            new Run("plain 5;").due(1, "luck", 3, 8, 0, 0).due(1, "luck", 3, 8, 0, 1);
        });
        section = "Promise 28";
        edge("Likewise, the mean of SPREAD behind them: 0, 1. BAD.", () -> {
            for (int what = 0; what < 2; what++) {
                ends(EdgeTest::busy, 0, 10, "mean", HERE, 3, what);
                ends(EdgeTest::busy, 0, 8, "mean", 3, HERE, what);
            }
            ends(EdgeTest::busy, 0, 1, "mean", 3, 3, HERE);
            Run x = new Run("plain 10;plain 12;cross 0 1 1;feast 6;");
            for (int n = 0; n <= 8; n++) {
                x.due(x.call("runs", n, 0), "mean", 0, n, 0).due(1, "mean", 0, n, 1).due(2, "mean", 10, n, 0).due(1, "mean", 10, n, 1);
            }
            new Run("plain 10;plain 20;plain 30;plain 40;plain 50;cross 4 0 1;feast 6;").due(41, "mean", 5, 2, 0).due(1, "mean", 5, 2, 1).due(43, "mean", 5, 6, 0);
            new Run("plain 50;plain 51;cross 0 1 1;").due(5750063, "mean", 1, 8, 0).due(1250000, "mean", 1, 8, 1);
            new Run("plain 0;plain 99;").due(99, "mean", 5, 0, 0).due(98, "mean", 5, 1, 0).due(1, "mean", 5, 1, 1);
            new Run("plain 5;").due(0, "mean", 5, 8, 0).due(1, "mean", 5, 8, 1);
        });
    }

    private static void promisesOfWhatWasSeen() {
        section = "Promise 29";
        edge("SEEN: behind n DAYS (0 to 20) an ISLE is AT FATHOM v: how many are.", () -> {
            ends(EdgeTest::busy, 0, 20, "see", HERE, 0, 9);
            ends(EdgeTest::busy, 0, 2, "see", 3, HERE, 9);
            ends(EdgeTest::busy, 0, 99, "see", 3, 0, HERE);
            new Run("plain 0;plain 99;").due(1, "see", 0, 0, 0).due(2, "see", 0, 1, 99).due(15, "kinds", 0).due(3, "see", 0, 0, 0).due(3, "count", 0);
        });
        edge("BAD; FULL.", () -> {
            Run x = new Run("plain 5;");
            for (int n = 1; n <= 6; n++) {
                x.due(n, "see", 20, 0, 5);
            }
            x.due(FULL, "see", 20, 0, 6).due(FULL, "see", 0, 0, 0).bad("see", 21, 0, 5).bad("see", 0, 1, 5).due(6, "count", 0).due(15, "kinds", 0);
            x.due(6, "forget", 5).due(6, "see", 20, 0, 6).due(FULL, "see", 20, 0, 6).due(0, "kinds", 0);
        });
        section = "Promise 30";
        edge("SEEN are the first n alone: how many there were. BAD.", () -> {
            ends(EdgeTest::busy, 0, 1, "forget", HERE);
            new Run("plain 5;").due(0, "forget", 0).bad("forget", 1).bad("forget", -1);
            Run x = new Run("plain 5;").due(1, "see", 1, 0, 5).due(2, "see", 1, 0, 6).due(0, "kinds", 0).due(2, "forget", 2).due(0, "kinds", 0);
            x.due(2, "forget", 1).due(15, "kinds", 0).bad("forget", 2).due(1, "forget", 0).due(0, "count", 0).due(0, "forget", 0);
            x.times(6, "see", 0, 0, 5).bad("forget", 7).due(6, "forget", 6).due(6, "forget", 0);
        });
        String held = "fond 1;fond 9;cross 1 0 1;rope 1 0 3;feast 4;";
        section = "Promise 31";
        edge("KINDS of an ISLE (bits) by which, all else as it is, all is as SEEN. BAD.", () -> {
            ends(EdgeTest::busy, 0, 2, "kinds", HERE);
            new Run().bad("kinds", 0);
            // Its rope is too long till the third feast: on day 19 alone a fond one does not drift as the others do.
            Run x = new Run(held).due(15, "kinds", 1).due(1, "see", 19, 1, 6).due(15, "kinds", 1).due(2, "see", 20, 1, 6).due(4, "kinds", 1);
            x.due(2, "forget", 1).due(2, "see", 20, 1, 7).due(11, "kinds", 1).due(3, "see", 20, 1, 6).due(0, "kinds", 1).due(2, "isle", 1, 0);
            Run y = new Run("plain 50;plain 40;cross 0 1 3;feast 6;").due(1, "see", 0, 0, 51).due(0, "kinds", 0).due(0, "kinds", 1).due(1, "forget", 0);
            int[] places = {53, 56, 51, 55};
            for (int kind = 0; kind < 4; kind++) {
                y.due(1, "see", 1, 0, places[kind]).due(1 << kind, "kinds", 0).due(kind == 0 ? 15 : 0, "kinds", 1).due(1, "forget", 0);
            }
        });
        section = "Promise 32";
        edge("How CROSS an ISLE may be with another one (bits 0 to 3), all else as it is, so that all is as SEEN.", () -> {
            Run x = new Run(held).due(15, "sulks", 1, 0).due(1, "see", 19, 1, 6).due(15, "sulks", 1, 0).due(2, "see", 20, 1, 6).due(3, "sulks", 1, 0);
            x.due(2, "forget", 0).due(1, "see", 20, 1, 7).due(12, "sulks", 1, 0).due(2, "see", 20, 1, 6).due(0, "sulks", 1, 0).due(1, "cross", 1, 0);
            Run y = new Run("plain 50;plain 40;feast 6;").due(1, "see", 0, 0, 51).due(0, "sulks", 0, 1).due(1, "forget", 0);
            for (int v = 0; v < 4; v++) {
                y.due(1, "see", 1, 0, 50 + v).due(1 << v, "sulks", 0, 1).due(v == 0 ? 15 : 0, "sulks", 1, 0).due(1, "forget", 0);
            }
        });
        edge("BAD (also alike).", () -> {
            ends(EdgeTest::busy, 0, 2, "sulks", HERE, 1);
            ends(EdgeTest::busy, 0, 2, "sulks", 1, HERE);
            busy().bad("sulks", 0, 0).bad("sulks", 2, 2).bad("sulks", 3, 3);
            new Run("plain 5;").bad("sulks", 0, 0).bad("sulks", 0, 1);
        });
    }

    private static void promisesOfAsking() {
        section = "Promise 33";
        edge("Behind how many DAYS (0 to 20), AT which FATHOM which ISLE is to be looked", () -> {
            new Run("fond 1;fond 9;cross 1 0 1;rope 1 0 3;feast 4;").due(201, "ask", 1, 0).due(3, "ask", 1, 1);
            // A feast a day later, and only the 21st day tells.
            new Run("fond 1;fond 9;cross 1 0 1;rope 1 0 3;feast 5;").due(NONE, "ask", 1, 0).due(NONE, "ask", 1, 1);
            new Run("plain 50;plain 40;cross 0 1 3;feast 6;").due(10, "ask", 0, 0);
        });
        edge("so that of kinds() of an ISLE fewest are left at the worst, fewer than now", () -> {
            new Run("plain 50;plain 40;cross 0 1 3;feast 6;").due(1, "ask", 0, 1);
            // Cross by 1 a plain one and a widow are alike for ever.
            Run x = new Run("plain 50;plain 40;cross 0 1 1;feast 6;").due(10, "ask", 0, 0).due(2, "ask", 0, 1);
            x.due(1, "see", 1, 0, 51).due(9, "kinds", 0).due(NONE, "ask", 0, 0).due(NONE, "ask", 0, 1);
            // The rope holds a proud one and a widow alike: the worst is not the plain one's.
            new Run("plain 50;plain 40;cross 0 1 3;rope 0 1 14;feast 6;").due(10, "ask", 0, 0).due(2, "ask", 0, 1);
        });
        edge("10 times the DAYS and the one to look at, of several the least (what 0), how many these are (1).", () -> {
            // The second comes up to the first on the same day, and tells as much.
            Run x = new Run("plain 50;proud 49;plain 40;cross 0 2 3;cross 1 2 3;feast 6;").due(10, "ask", 0, 0).due(1, "ask", 0, 1);
            int[] first = {53, 56, 51, 55};
            int[] second = {52, 55, 50, 54};
            for (int kind = 0; kind < 4; kind++) {
                x.call("alter", 0, 0, kind);
                x.due(first[kind], "ahead", 0, 1).due(second[kind], "ahead", 1, 1);
            }
            new Run("plain 1;plain 5;plain 10;plain 15;plain 60;cross 4 0 3;feast 6;").due(14, "ask", 4, 0).due(1, "ask", 4, 1);
        });
        edge("BAD; NONE: none.", () -> {
            ends(EdgeTest::busy, 0, 2, "ask", HERE, 0);
            ends(EdgeTest::busy, 0, 1, "ask", 0, HERE);
            new Run().bad("ask", 0, 0);
            new Run("plain 5;").due(NONE, "ask", 0, 0).due(NONE, "ask", 0, 1);
            // One kind is left, or none: there is nothing to be told.
            Run x = new Run("plain 50;plain 40;cross 0 1 3;feast 6;").due(1, "see", 1, 0, 53).due(NONE, "ask", 0, 0).due(NONE, "ask", 0, 1);
            x.due(2, "see", 1, 0, 54).due(0, "kinds", 0).due(NONE, "ask", 0, 0).due(NONE, "ask", 0, 1);
            new Run("plain 99;plain 98;cross 0 1 3;").due(NONE, "ask", 0, 0);
        });
    }

    private static void promisesOfASeed() {
        section = "Promise 34";
        edge("By itself, n DAYS (1 to 60) by a seed", () -> {
            ends(EdgeTest::busy, 1, 60, "drift", 5, HERE, 0);
            ends(EdgeTest::busy, 1, 60, "drift", 5, HERE, 1);
            ends(EdgeTest::busy, 0, 1, "drift", 5, 9, HERE);
            Run x = new Run("plain 10;plain 20;plain 30;feast 6;").due(23, "drift", 1, 1, 0).due(23, "drift", 1, 1, 0).at(10, 20, 30).due(0, "rule", 2).due(0, "count", 5);
            x.times(33, "days", 30).due(0, "days", 9).due(999, "rule", 2);
            hold(x.call("drift", 1, 60, 0) >= 0, "by itself it is not FULL");
            // BUMPS that there were are not counted.
            byHand("plain 11;plain 10;plain 50;plain 0;cross 0 2 3;cross 1 3 3;feast 6;", 1, 1);
            byHand("plain 11;plain 10;plain 50;plain 0;cross 0 2 3;cross 1 3 3;feast 6;", 1, 60);
        });
        edge("ahead of each the seed becomes seed times 1103515245 and 12345; bits 16 to 30 of it are got", () -> {
            for (int seed : new int[] {0, 1, -1, LEAST, LEAST + 1, MOST, MOST - 1, 1 << 16, 1 << 30, 123456789, -987654321}) {
                byHand("plain 10;proud 20;fond 30;widow 40;plain 50;rope 0 4 30;rope 1 2 12;cross 3 1 2;feast 3;", seed, 1);
                byHand("plain 10;proud 20;fond 30;widow 40;plain 50;rope 0 4 30;rope 1 2 12;cross 3 1 2;feast 3;", seed, 60);
            }
        });
        edge("ISLE got modulo ISLES is CROSS with ISLE got by 8 (down) modulo ISLES as much as got by 64 (down) modulo 4", () -> {
            String[] isles = {"widow 3;", "plain 50;", "proud 40;", "fond 41;", "plain 43;"};
            String text = "feast 6;cross 0 1 3;";
            for (int n = 0; n < 5; n++) {
                text += isles[n];
                for (int seed = 0; n > 0 && seed < 40; seed++) {
                    byHand(text, seed, 1 + seed);
                }
            }
        });
        edge("(with itself: nothing)", () -> {
            new Run("plain 1;").due(0, "drift", LEAST, 60, 0).due(0, "drift", MOST, 60, 1).due(0, "drift", 0, 1, 0);
            // The first that is got of 0 is 0: the first isle with itself.
            new Run("plain 10;plain 20;plain 30;feast 6;").due(20, "drift", 0, 1, 0).due(0, "drift", 0, 1, 1);
        });
        edge("BAD; STATE: there are no ISLES.", () -> {
            new Run().due(STATE, "drift", 1, 1, 0).due(STATE, "drift", 1, 60, 1).bad("drift", 1, 0, 0).bad("drift", 1, 61, 0).bad("drift", 1, 1, 2).bad("drift", 1, 1, -1);
            new Run("plain 1;").due(0, "drift", 1, 1, 0).put("feast 1;").due(1, "text").due(STATE, "drift", 1, 1, 0);
        });
    }

    /** What drift() tells behind a day, told once more by sulk() and days(). */
    private static void byHand(String text, int seed, int n) {
        Run x = new Run(text);
        x.call("days", 1);
        long spread = x.call("drift", seed, n, 0);
        long bumps = x.call("drift", seed, n, 1);
        int isles = (int) x.call("rule", 0);
        long had = x.call("rule", 4);
        long s = seed;
        for (int d = 0; d < n; d++) {
            s = (int) (s * 1103515245L + 12345L);
            int got = (int) (Math.floorMod(s, 1L << 31) / 65536);
            int who = got % isles;
            int whom = got / 8 % isles;
            if (who != whom) {
                x.call("sulk", who, whom, got / 64 % 4);
            }
            x.call("days", 1);
        }
        alike(spread, x.call("rule", 5), told("drift", seed, n, 0));
        alike(bumps, x.call("rule", 4) - had, told("drift", seed, n, 1));
    }

    // ---------------------------------------------------------------- promises: images, sheets

    private static void promisesOfImages() {
        section = "Promise 35";
        edge("IMAGE k (0, 1) is ISLES, ROPES, FEAST, DAY, BUMPS, what was SEEN: whether there was one (1, 0). BAD.", () -> {
            ends(EdgeTest::busy, 0, 1, "keep", HERE);
            busy().due(1, "keep", 1).due(0, "keep", 0).due(1, "keep", 0).due(2, "count", 1);
            new Run().due(0, "keep", 0).due(0, "keep", 1).due(1, "keep", 1).due(0, "back", 0).due(0, "rule", 0);
            imageHoldsAll(0);
            imageHoldsAll(1);
            imageHoldsTheMost(0);
            imageHoldsTheMost(1);
        });
        section = "Promise 36";
        edge("All is as IMAGE k: DAY. BAD", () -> {
            Supplier<Run> both = () -> {
                Run x = busy();
                x.call("keep", 0);
                return x;
            };
            ends(both, 0, 1, "back", HERE);
            // The two are apart, and one may be gone back to again and again.
            Run y = new Run("plain 7;").due(0, "days", 5).due(0, "keep", 0).due(7, "alter", 0, 1, 9).due(0, "days", 30).due(0, "keep", 1);
            y.due(5, "back", 0).at(7).due(35, "back", 1).at(9).due(5, "back", 0).at(7).due(7, "alter", 0, 1, 3).due(5, "back", 0).at(7).due(2, "count", 1);
            // THE TAPE, the SHEETS and the FAULTS are of no image.
            busy().due(2, "back", 1).due(8, "count", 2).due(7, "count", 3).due(3, "torn").due(-21, "read", 0, 0, 0, 2).due(1, "text").at(1);
            new Run().due(0, "keep", 0).put("A").due(-10, "text").due(0, "back", 0).due(1, "fault");
            new Run().due(0, "keep", 1).due(0, "days", 9).due(0, "back", 1).due(0, "rule", 2).due(0, "rule", 0);
        });
        edge("STATE: there is none.", () -> {
            new Run().due(STATE, "back", 0).due(STATE, "back", 1).bad("back", 2).bad("back", -1);
            busy().due(STATE, "back", 0).due(2, "back", 1).due(STATE, "back", 0);
            Run x = busy();
            x.call("end", 0);
            x.put("A").due(-10, "text").due(2, "back", 1).due(0, "text").due(STATE, "back", 1);
        });
    }

    /** Five isles, six ropes, of which the last holds the last isle. */
    private static Run crowd() {
        return new Run("fond 1;plain 9;widow 20;proud 30;proud 40;cross 4 0 3;cross 3 2 1;cross 0 4 2;cross 2 4 1;"
            + "rope 0 1 30;rope 1 2 29;rope 2 3 28;rope 3 1 30;rope 4 2 30;feast 6;").due(6, "wed", 3, 4, 13);
    }

    /** What would be is what comes to be, with as many isles and ropes as there may be. */
    private static void crowdRunsAsItWould() {
        for (int n : new int[] {1, 2, 6, 7, 8, 30}) {
            Run x = crowd();
            long[] then = new long[5];
            for (int i = 0; i < 5; i++) {
                then[i] = x.call("ahead", i, n);
            }
            long spread = x.call("runs", n, 0);
            long bumps = x.call("runs", n, 1);
            x.due(bumps, "days", n).due(spread, "rule", 5).due(bumps, "rule", 4);
            for (int i = 0; i < 5; i++) {
                x.due(then[i], "isle", i, 1);
            }
        }
        // The last one would drift by 6; the last rope lets it go only as far as 13 from the fourth, which has come to 32.
        crowd().due(45, "ahead", 4, 1).due(6, "loose", 5).due(46, "ahead", 4, 1);
    }

    private static void imageHoldsTheMost(int k) {
        Run x = crowd();
        x.call("days", 1);
        for (int i = 0; i < 5; i++) {
            x.due(i + 1, "see", 0, i, (int) x.call("isle", i, 1));
        }
        x.due(6, "see", 1, 3, (int) x.call("ahead", 3, 1)).due(FULL, "see", 1, 3, 0);
        hold(x.call("kinds", 3) > 0 && x.call("kinds", 3) < 15, "some kinds are left");
        List<Long> before = new ArrayList<>();
        x.due(0, "keep", k);
        show(x, before);
        x.due(6, "forget", 0).times(6, "see", 2, 0, 99).due(6, "loose", 0).times(6, "wed", 1, 0, 1);
        for (int i = 0; i < 5; i++) {
            x.call("alter", i, 0, 3 - (int) x.call("isle", i, 0));
            x.call("alter", i, 1, 90 + i);
            x.call("sulk", i, (i + 1) % 5, 3);
        }
        x.due(1, "back", k);
        List<Long> after = new ArrayList<>();
        show(x, after);
        alike(after, before, "all behind back()");
    }

    private static void imageHoldsAll(int k) {
        Run x = new Run("plain 50;plain 49;plain 40;cross 0 2 3;cross 2 0 1;cross 1 0 1;rope 0 2 30;rope 2 1 20;feast 6;");
        x.call("days", 1);
        x.call("sulk", 0, 1, 2);
        // Both are as it will be, so that the kinds by which they are tell the days, the isles and the fathoms.
        x.due(1, "see", 1, 0, (int) x.call("ahead", 0, 1)).due(2, "see", 20, 2, (int) x.call("ahead", 2, 20));
        hold(x.call("kinds", 0) > 0 && x.call("kinds", 0) < 15, "some kinds are left");
        List<Long> before = new ArrayList<>();
        x.due(0, "keep", k);
        show(x, before);
        x.due(2, "forget", 0);
        x.call("see", 2, 2, 9);
        x.call("see", 3, 2, 8);
        x.call("see", 4, 2, 7);
        x.call("alter", 0, 0, 3);
        x.call("alter", 1, 1, 99);
        x.call("sulk", 2, 0, 3);
        x.call("haul", 1, 3);
        x.call("wed", 0, 1, 5);
        x.call("feast", 0);
        x.call("days", 9);
        x.due(1, "back", k);
        List<Long> after = new ArrayList<>();
        show(x, after);
        alike(after, before, "all behind back()");
    }

    private static void promisesOfSheets() {
        section = "Promise 37";
        edge("A SHEET is a new row of CELLS 0: 1.", () -> {
            Run x = new Run("plain 1;plain 2;cross 0 1 3;cross 1 0 3;");
            x.due(1, "sheet", 1, 0, 3).cells(1, 1, 1, 1).due(1, "sheet", 1, 0, 3).due(1, "lay", 1, 1, 1).due(1, "read", 1, 0, 0, 1).due(0, "cross", 0, 1);
            // A shorter row and then a longer one: what was behind is not there any more.
            x.due(1, "sheet", 1, 2, 40).due(1, "lay", 1, 39, 3).due(1, "lay", 1, 37, 1).due(1, "sheet", 1, 2, 1).due(-12, "lay", 1, 1, 1);
            x.due(1, "sheet", 1, 2, 40).due(-20, "read", 1, 2, 37, 1).due(1, "lay", 1, 37, 1).due(1, "read", 1, 2, 37, 1).due(0, "torn").due(0, "cross", 1, 0);
            x.due(1, "sheet", 0, 0, 0).due(0, "count", 3).due(1, "sheet", 0, 0, 40).due(40, "count", 3);
        });
        edge("BAD: also n above 40", () -> {
            for (int n : new int[] {41, 296, MOST}) {
                refused(EdgeTest::busy, BAD, "sheet", 0, 0, n);
            }
            ends(EdgeTest::busy, 0, 3, "sheet", HERE, 0, 40);
            ends(EdgeTest::busy, 0, 2, "sheet", 1, HERE, 40);
            ends(EdgeTest::busy, 0, 2, "sheet", 1, HERE, 0);
        });
        edge("-10 - 4.", () -> {
            for (int n : new int[] {-1, -40, LEAST}) {
                refused(EdgeTest::busy, -14, "sheet", 0, 0, n);
                refused(EdgeTest::busy, -14, "sheet", 1, 2, n);
                busy().bad("sheet", 4, 0, n).bad("sheet", -1, 0, n).bad("sheet", 0, 3, n).bad("sheet", 0, -1, n);
            }
        });
        section = "Promise 38";
        edge("CELL i of a SHEET becomes v (its lowest bits): 1.", () -> {
            Run x = new Run("plain 1;plain 2;");
            // What is read by sulk() is 3 or no number that it takes.
            int[][] threes = {{3, 259, -253, 65539, 0x7fffff03, 0x80000003}, {3, 65539, -65533, 0x7fff0003, 0x80000003}, {3}};
            int[][] others = {{-1, 4, 127, 128, -128, 255, LEAST | 128, MOST}, {259, -253, 32767, 32768, 65535, MOST}, {259, -253, 65539, -65533, LEAST | 3, MOST, -1}};
            for (int lane = 0; lane < 3; lane++) {
                x.due(1, "sheet", 0, lane, 3).due(1, "lay", 0, 1, 1);
                for (int v : threes[lane]) {
                    x.call("sulk", 0, 1, 0);
                    x.due(1, "lay", 0, 2, v).due(1, "read", 0, lane, 0, 1).due(3, "cross", 0, 1);
                }
                for (int v : others[lane]) {
                    x.due(1, "lay", 0, 2, v).due(-20, "read", 0, lane, 0, 1).due(3, "cross", 0, 1);
                }
                x.due(1, "lay", 0, 2, LEAST).due(lane == 2 ? -20 : 1, "read", 0, lane, 0, 1).due(lane == 2 ? 3 : 0, "cross", 0, 1);
                x.call("sulk", 0, 1, 3);
            }
        });
        edge("BAD: k; -10 less the FAULT: NULL, INDEX.", () -> {
            ends(EdgeTest::busy, 0, 3, "lay", HERE, 0, 1);
            for (int i : new int[] {7, -1, 40, LEAST, MOST, 256}) {
                refused(EdgeTest::busy, -12, "lay", 0, i, 2);
                refused(EdgeTest::busy, -11, "lay", 1, i, 2);
                busy().bad("lay", 4, i, 2).bad("lay", -1, i, 2);
            }
            refused(EdgeTest::busy, -11, "lay", 2, 0, 2);
            busy().due(1, "lay", 0, 0, 2).due(1, "lay", 0, 6, 2).due(-12, "lay", 3, 3, 0).due(1, "lay", 3, 2, 0);
            new Run().due(1, "sheet", 0, 1, 0).due(-12, "lay", 0, 0, 0).due(-12, "lay", 0, -1, 0);
        });
    }

    private static void promisesOfReading() {
        section = "Promise 39";
        edge("n (0 to 13) times who, with whom, how CROSS are read of a SHEET taken as of a lane, three CELLS each from CELL f on, "
            + "one behind another as by sulk(): how many came.", () -> {
            Run x = new Run("plain 1;plain 2;plain 3;").due(1, "sheet", 0, 1, 40);
            for (int t = 0; t < 13; t++) {
                x.due(1, "lay", 0, 3 * t + 1, t % 2).due(1, "lay", 0, 3 * t + 2, 1 + t % 2).due(1, "lay", 0, 3 * t + 3, t % 4);
            }
            x.due(0, "read", 0, 1, 1, 0).due(0, "torn").due(0, "count", 5);
            x.due(13, "read", 0, 1, 1, 13).due(0, "torn").due(0, "cross", 0, 1).due(3, "cross", 1, 2);
            // The latter of the same two stays; the last three cells are the last of the row.
            x.due(1, "read", 0, 1, 1 + 3 * 9, 1).due(1, "cross", 1, 2).due(1, "read", 0, 1, 37, 1).due(0, "torn").due(0, "cross", 0, 1);
            x.due(12, "read", 0, 1, 1, 12).due(3, "cross", 1, 2).due(2, "cross", 0, 1);
        });
        edge("What the machine refuses: those that were whole ahead came (its FAULT is asked by torn()).", EdgeTest::tornReads);
        edge("BAD: k, lane, n", () -> {
            Supplier<Run> made = () -> {
                Run x = busy();
                x.call("sheet", 1, 0, 0);
                return x;
            };
            ends(made, 0, 13, "read", 1, 0, 0, HERE);
            ends(made, 0, 2, "read", 1, HERE, 0, 13);
            ends(made, 0, 3, "read", HERE, 1, 99, 0);
            busy().bad("read", 4, 0, 0, 0).bad("read", 0, 3, 0, 0).bad("read", 2, 0, LEAST, 14).due(3, "torn");
        });
        edge("-20 less i: the i-th, whole, is refused by sulk(): then none came; the first met.", () -> {
            Run x = new Run("plain 1;plain 2;").due(1, "sheet", 0, 0, 40);
            for (int t = 0; t < 13; t++) {
                x.due(1, "lay", 0, 3 * t + 1, 1).due(1, "lay", 0, 3 * t + 2, 3);
            }
            for (int t = 0; t < 13; t++) {
                x.due(1, "lay", 0, 3 * t + 2, 4).due(-20 - t, "read", 0, 0, 0, 13).due(0, "cross", 0, 1);
                x.due(-20 - t, "read", 0, 0, 0, t + 1).due(0, "cross", 0, 1).due(1, "lay", 0, 3 * t + 2, 3);
            }
            x.due(13, "read", 0, 0, 0, 13).due(3, "cross", 0, 1);
            x.call("sulk", 0, 1, 0);
            // Of two that are refused the first is met; so is one that is refused ahead of cells that there are not.
            x.due(1, "lay", 0, 5, 4).due(1, "lay", 0, 8, 4).due(-21, "read", 0, 0, 0, 13).due(-21, "read", 0, 0, 0, 2).due(1, "read", 0, 0, 0, 1);
            x.due(1, "lay", 0, 38, 4).due(-20, "read", 0, 0, 36, 2).due(0, "read", 0, 0, 39, 1);
            // Who, with whom, how cross: each out of its bounds, alike.
            x.due(1, "sheet", 0, 2, 3);
            int[][] rows = {{-1, 1, 1}, {2, 1, 1}, {0, -1, 1}, {0, 2, 1}, {0, 0, 1}, {1, 1, 1}, {0, 1, -1}, {0, 1, 4}, {LEAST, 1, 1}, {0, MOST, 1}, {0, 1, LEAST}};
            for (int[] row : rows) {
                x.cells(0, row).due(-20, "read", 0, 2, 0, 1).due(-20, "read", 0, 2, 0, 13);
            }
            x.due(3, "count", 5);
        });
        section = "Promise 40";
        edge("The FAULT of the latest read() that came to an end; 0.", () -> {
            Run x = new Run("plain 1;plain 2;").due(0, "torn").due(0, "read", 0, 0, 0, 1).due(1, "torn").due(1, "torn");
            x.due(1, "sheet", 0, 0, 4).due(1, "torn").due(1, "lay", 0, 1, 1).due(0, "read", 0, 1, 0, 1).due(3, "torn");
            // What is refused is no read() that came to an end.
            x.due(1, "lay", 0, 2, 4).due(-20, "read", 0, 0, 0, 1).due(3, "torn").bad("read", 4, 0, 0, 1).bad("read", 0, 0, 0, 14).due(3, "torn");
            x.due(-12, "lay", 0, 4, 0).due(-14, "sheet", 0, 0, -1).due(3, "torn").due(1, "lay", 0, 2, 3);
            x.due(1, "read", 0, 0, 0, 2).due(2, "torn").due(0, "text").due(2, "torn").due(0, "read", 0, 0, 0, 0).due(0, "torn");
        });
        section = "Promise 41";
        edge("0 SEEN, 1 IMAGES, 2 bytes on THE TAPE, 3 CELLS of SHEET 0 (NONE: nothing)", () -> {
            Run x = new Run("plain 1;").due(0, "count", 0).due(0, "count", 1).due(0, "count", 2).due(NONE, "count", 3);
            x.times(7, "see", 0, 0, 1).due(6, "count", 0).due(0, "keep", 1).due(1, "count", 1).due(0, "keep", 0).due(2, "count", 1).due(1, "keep", 0).due(2, "count", 1);
            x.due(1, "sheet", 1, 0, 9).due(NONE, "count", 3).due(1, "sheet", 0, 0, 0).due(0, "count", 3).due(1, "sheet", 0, 2, 40).due(40, "count", 3);
            x.times(161, "feed", 32).due(160, "count", 2).due(0, "text").due(0, "count", 2).due(0, "count", 0).due(0, "count", 1).due(40, "count", 3);
        });
        edge("4 LENGTHS of all ROPES, 5 how CROSS all are with all, summed. BAD.", () -> {
            ends(EdgeTest::busy, 0, 5, "count", HERE);
            Run x = new Run("plain 1;plain 2;plain 3;plain 4;plain 5;").due(0, "count", 4).due(0, "count", 5);
            for (int i = 0; i < 25; i++) {
                x.call("sulk", i / 5, i % 5, 3);
            }
            x.times(7, "wed", 0, 1, 30).due(180, "count", 4).due(60, "count", 5).due(6, "loose", 0).due(0, "count", 4);
        });
    }

    private static void tornReads() {
        Run x = new Run("plain 1;plain 2;plain 3;").due(1, "sheet", 0, 0, 8).cells(0, 0, 1, 3, 1, 0, 2, 2, 1);
        // Two cells of the third are there, one is not: it is not whole.
        x.due(2, "read", 0, 0, 0, 3).due(2, "torn").due(3, "cross", 0, 1).due(2, "cross", 1, 0).due(0, "cross", 2, 1);
        x.due(2, "read", 0, 0, 0, 13).due(2, "torn").due(2, "read", 0, 0, 0, 2).due(0, "torn");
        for (int f : new int[] {-1, -2, -3, LEAST, 6, 7, 8, 9, 40, MOST, MOST - 1, MOST - 2, MOST - 37}) {
            x.due(0, "read", 0, 0, f, 1).due(2, "torn").due(0, "read", 0, 0, f, 13).due(2, "torn").due(0, "read", 0, 1, f, 13).due(3, "torn");
            x.due(0, "read", 1, 0, f, 13).due(1, "torn");
        }
        x.due(5, "count", 5).due(1, "read", 0, 0, 3, 2).due(2, "torn");
        // No cells at all; and no cell is read, so that nothing is found, whatever the sheet.
        x.due(1, "sheet", 2, 0, 0).due(0, "read", 2, 0, 0, 1).due(2, "torn").due(0, "read", 2, 0, 0, 0).due(0, "torn");
        x.due(0, "read", 0, 0, 99, 0).due(0, "torn").due(0, "read", 0, 2, 0, 0).due(0, "torn").due(0, "read", 3, 0, 0, 0).due(0, "torn");
    }

    // ---------------------------------------------------------------- the document

    private static Map<String, String> sectionsOf(String document) {
        Map<String, String> sections = new LinkedHashMap<>();
        for (String part : document.split("\n## ")) {
            int line = part.indexOf('\n');
            if (line > 0) {
                sections.put(part.substring(0, line).replaceFirst(":.*", "").trim(), flat(part.substring(line)));
            }
        }
        return sections;
    }

    private static String flat(String text) {
        return text.replace("```text", " ").replace("```", " ").replaceAll("\\s+", " ");
    }

    /** Every quote stands in its section, and every word there that names a boundary case stands in a quote. */
    private static void quotesAreTheDocuments(String document) {
        Map<String, String> sections = sectionsOf(document);
        Pattern cases = Pattern.compile("BAD|STATE -2|STATE:|FULL|NONE|[0-9]+ to [0-9]+|at most|at first|more than|or less|or more|\\babove\\b"
            + "|\\bbelow\\b|of several|also|\\bnone\\b|too long|already|second time|6th|7th|longer|modulo|lowest|no two|nothing|as long as");
        for (int p = 1; p <= 41; p++) {
            section = "Promise " + p;
            sentence = "";
            hold(sections.containsKey(section), "the document has it");
            hold(QUOTES.containsKey(section), "it has a test");
        }
        for (Map.Entry<String, List<String>> of : QUOTES.entrySet()) {
            section = of.getKey();
            String text = sections.getOrDefault(section, "");
            boolean[] quoted = new boolean[text.length()];
            for (String words : of.getValue()) {
                sentence = words;
                hold(text.contains(words), "the document does not say so");
                for (int at = text.indexOf(words); at >= 0; at = text.indexOf(words, at + 1)) {
                    for (int c = at; c < at + words.length(); c++) {
                        quoted[c] = true;
                    }
                }
            }
            Matcher met = cases.matcher(text);
            while (met.find()) {
                sentence = text.substring(Math.max(0, met.start() - 40), Math.min(text.length(), met.end() + 40));
                hold(quoted[met.start()], "'" + met.group() + "' stands in no quote");
            }
        }
    }

    public static void main(String[] args) throws Exception {
        for (Method m : TemperIsles.class.getDeclaredMethods()) {
            if (Modifier.isPublic(m.getModifiers())) {
                FACE.put(m.getName(), m);
            }
        }
        use();
        answers();
        isles();
        tempers();
        tokens();
        faults();
        dayByDay();
        sheetTerms();
        promisesOfTheText();
        promisesOfWhatIsAsked();
        promisesOfChanges();
        promisesOfDays();
        promisesOfTheBest();
        promisesOfChoices();
        promisesOfStorms();
        promisesOfWhatWasSeen();
        promisesOfAsking();
        promisesOfASeed();
        promisesOfImages();
        promisesOfSheets();
        promisesOfReading();
        quotesAreTheDocuments(Files.readString(DOCUMENT));
        System.out.println(sentences + " sentences, " + checks + " answers looked at, " + wrong + " wrong");
        if (wrong != 0) {
            System.exit(1);
        }
    }
}
