import java.util.ArrayList;
import java.util.List;

/** Each promise by itself, with answers reckoned by hand from the document. */
public final class PromiseTest {
    private static final int BAD = -1, STATE = -2, FULL = -3, NONE = -4;
    private static final int LEAST = Integer.MIN_VALUE, MOST = Integer.MAX_VALUE;
    private static int checks = 0;
    private static int wrong = 0;
    private static String promise = "";

    private static void due(String call, long got, long want) {
        checks++;
        if (got != want) {
            wrong++;
            System.out.println(promise + ": " + call + " answered " + got + ", due is " + want);
        }
    }

    private static void feed(TemperIsles x, String text) {
        for (int c = 0; c < text.length(); c++) {
            x.feed(text.charAt(c));
        }
    }

    private static TemperIsles told(String text) {
        TemperIsles x = new TemperIsles();
        feed(x, text);
        int lines = text.length() - text.replace(";", "").length();
        due("text of " + text, x.text(), lines);
        return x;
    }

    private static void places(TemperIsles x, int... want) {
        for (int i = 0; i < want.length; i++) {
            due("isle(" + i + ", 1)", x.isle(i, 1), want[i]);
        }
    }

    /** All that can be asked without a change. */
    private static List<Long> state(TemperIsles x) {
        List<Long> all = new ArrayList<>();
        for (int w = 0; w < 6; w++) {
            all.add((long) x.rule(w));
            all.add((long) x.count(w));
            for (int i = 0; i < 5; i++) {
                all.add((long) x.isle(i, w));
            }
            for (int v = 0; v < 3; v++) {
                all.add((long) x.rope(w, v));
            }
        }
        for (int i = 0; i < 5; i++) {
            for (int j = 0; j < 5; j++) {
                all.add((long) x.cross(i, j));
            }
            all.add((long) x.kinds(i));
        }
        all.add((long) x.fault());
        all.add((long) x.torn());
        return all;
    }

    private interface Calls {
        long on(TemperIsles x);
    }

    private static TemperIsles busy() {
        TemperIsles x = told("plain 30;proud 34;fond 37;cross 0 1 2;cross 1 0 1;cross 2 1 3;rope 0 1 6;feast 5;");
        x.days(2);
        x.see(3, 0, 28);
        x.keep(1);
        x.sheet(0, 0, 7);
        x.lay(0, 1, 1);
        x.lay(0, 3, 9);
        x.read(0, 0, 0, 0);
        x.read(0, 1, 0, 1);
        feed(x, "plain 1;");
        return x;
    }

    private static void refused(String call, long want, Calls calls) {
        TemperIsles x = busy();
        List<Long> before = state(x);
        due(call, calls.on(x), want);
        due(call + " changed something", before.equals(state(x)) ? 0 : 1, 0);
    }

    private static void unchanged(String call, Calls calls) {
        TemperIsles x = busy();
        List<Long> before = state(x);
        due(call + " is refused", calls.on(x) >= 0 || calls.on(x) == NONE ? 0 : 1, 0);
        due(call + " changed something", before.equals(state(x)) ? 0 : 1, 0);
    }

    // ---------------------------------------------------------------- the text

    private static void newObject() {
        promise = "promise 1";
        TemperIsles x = new TemperIsles();
        for (int w = 0; w < 6; w++) {
            due("rule(" + w + ")", x.rule(w), 0);
            due("count(" + w + ")", x.count(w), w == 3 ? NONE : 0);
        }
        due("isle(0, 0)", x.isle(0, 0), BAD);
        due("fault()", x.fault(), 0);
        due("torn()", x.torn(), 0);
        for (int k = 0; k < 4; k++) {
            due("lay(" + k + ", 0, 0)", x.lay(k, 0, 0), -11);
        }
        due("back(0)", x.back(0), STATE);
        due("back(1)", x.back(1), STATE);
        due("BAD", TemperIsles.BAD, -1);
        due("STATE", TemperIsles.STATE, -2);
        due("FULL", TemperIsles.FULL, -3);
        due("NONE", TemperIsles.NONE, -4);
        TemperIsles y = new TemperIsles();
        y.feed('a');
        due("count(2) of another object", x.count(2), 0);
    }

    private static void tape() {
        promise = "promise 2";
        TemperIsles x = new TemperIsles();
        due("feed(-1)", x.feed(-1), BAD);
        due("feed(128)", x.feed(128), BAD);
        due("feed(LEAST)", x.feed(LEAST), BAD);
        due("feed(MOST)", x.feed(MOST), BAD);
        due("feed(0)", x.feed(0), 1);
        due("feed(127)", x.feed(127), 2);
        for (int n = 3; n <= 160; n++) {
            due("feed(32)", x.feed(32), n);
        }
        due("feed(32)", x.feed(32), FULL);
        due("feed(128)", x.feed(128), BAD);
        due("count(2)", x.count(2), 160);

        promise = "promise 3";
        due("end(161)", x.end(161), BAD);
        due("end(-1)", x.end(-1), BAD);
        due("end(160)", x.end(160), 160);
        due("end(7)", x.end(7), 160);
        due("end(8)", x.end(8), BAD);
        due("count(2)", x.count(2), 7);
        due("end(0)", x.end(0), 7);
        due("end(0)", x.end(0), 0);
        feed(x, "plain 1;plain 22");
        due("end(8)", x.end(8), 16);
        feed(x, "fond 5;");
        due("text()", x.text(), 2);
        due("isle(1, 0)", x.isle(1, 0), 2);
        due("isle(1, 1)", x.isle(1, 1), 5);
    }

    private static void textTaken() {
        promise = "promise 4";
        TemperIsles x = told(" plain 0;proud99 ; fond  07;widow 10;plain 11;cross 0 4 3;cross 4 0 0;rope 4 0 30;rope 0 4 1;rope 01 02 03;feast 6 ; ");
        int[] kinds = {0, 1, 2, 3, 0};
        for (int i = 0; i < 5; i++) {
            due("isle(" + i + ", 0)", x.isle(i, 0), kinds[i]);
        }
        places(x, 0, 99, 7, 10, 11);
        due("cross(0, 4)", x.cross(0, 4), 3);
        due("cross(4, 0)", x.cross(4, 0), 0);
        due("cross(1, 2)", x.cross(1, 2), 0);
        due("rule(0)", x.rule(0), 5);
        due("rule(1)", x.rule(1), 3);
        due("rule(3)", x.rule(3), 6);
        due("rope(0, 0)", x.rope(0, 0), 4);
        due("rope(2, 2)", x.rope(2, 2), 3);
        due("count(2)", x.count(2), 0);

        x.days(1);
        x.see(0, 0, 0);
        x.keep(0);
        x.keep(1);
        x.sheet(0, 1, 4);
        due("text() of nothing", x.text(), 0);
        for (int w = 0; w < 6; w++) {
            due("rule(" + w + ")", x.rule(w), 0);
        }
        due("count(0)", x.count(0), 0);
        due("count(1)", x.count(1), 0);
        due("count(3)", x.count(3), 4);
        due("back(0)", x.back(0), STATE);
        due("back(1)", x.back(1), STATE);
        feed(x, "plain 1;plain 2;");
        due("text()", x.text(), 2);
        due("cross(0, 1)", x.cross(0, 1), 0);
        due("rule(3)", x.rule(3), 0);

        TemperIsles y = told("plain 1;plain 3;feast 1;");
        y.days(4);
        feed(y, "rope 1 0 9;plain 50;fond 51;");
        due("text()", y.text(), 3);
        due("rule(2)", y.rule(2), 0);
        due("rope(0, 0)", y.rope(0, 0), 1);
    }

    private static void faultAt(String text, int fault, int place) {
        TemperIsles x = busy();
        List<Long> before = state(x);
        x.end(0);
        feed(x, text);
        due("text of " + text, x.text(), -10 - place);
        due("fault of " + text, x.fault(), fault);
        due("bytes left of " + text, x.count(2), 0);
        feed(x, "plain 1;");
        List<Long> after = state(x);
        before.set(before.size() - 2, after.get(after.size() - 2));
        due("changed by " + text, before.equals(after) ? 0 : 1, 0);
        x.end(0);
        due("text()", x.text(), 0);
        due("fault()", x.fault(), 0);
    }

    private static void textFaults() {
        promise = "promises 4, 5";
        faultAt("plain A;", 1, 6);
        faultAt("Plain 1;", 1, 0);
        faultAt("plain -1;", 1, 6);
        faultAt("plain 1;\t", 1, 8);
        faultAt("plain 123;", 1, 6);
        faultAt("plain 001;", 1, 6);
        faultAt("plain\u00001;", 1, 5);
        faultAt("`", 1, 0);
        faultAt("{", 1, 0);
        faultAt("plain /;", 1, 6);
        faultAt("plain :;", 1, 6);

        faultAt("plane 1;", 2, 0);
        faultAt("plains 1;", 2, 0);
        faultAt("glain 1;", 2, 0);
        faultAt("bond 1;", 2, 0);
        faultAt("hope 0 1 1;", 2, 0);
        faultAt("feasx 1;", 2, 0);
        faultAt("plai 1;", 2, 0);
        faultAt("plainproud 1;", 2, 0);
        faultAt("  ;", 2, 2);
        faultAt("plain 1;;", 2, 8);
        faultAt("7;", 2, 0);
        faultAt("plain ;", 2, 6);
        faultAt("plain plain;", 2, 6);
        faultAt("plain 1 2;", 2, 8);
        faultAt("plain 1 plain 2;", 2, 8);
        faultAt("plain", 2, 5);
        faultAt("plain 1", 2, 7);
        faultAt("plain 1   ", 2, 10);
        faultAt("plain   ", 2, 8);
        faultAt("cross 0 1;", 2, 9);
        faultAt("cross 0 1", 2, 9);
        faultAt("feast 3 4;", 2, 8);

        faultAt("cross 5 0 1;", 3, 6);
        faultAt("cross 0 5 1;", 3, 8);
        faultAt("cross 2 2 9;", 3, 8);
        faultAt("cross 0 1 4;", 3, 10);
        faultAt("rope 5 0 1;", 3, 5);
        faultAt("rope 0 10 1;", 3, 7);
        faultAt("rope 3 03 1;", 3, 7);
        faultAt("rope 0 1 0;", 3, 9);
        faultAt("rope 0 1 31;", 3, 9);
        faultAt("feast 7;", 3, 6);
        faultAt("feast 7", 3, 6);

        faultAt("feast 1;feast", 4, 8);
        faultAt("feast 1;feast 9;", 4, 8);
        faultAt("plain 4;fond 04", 4, 13);
        faultAt("plain 4;plain 5;cross 0 1 0;cross 0 1", 4, 36);
        faultAt("cross 0 1 0;cross 1 0 1;cross 0 1 9;", 4, 32);
        faultAt("plain 4;plain 4A", 4, 14);

        faultAt("plain 1;plain 2;plain 3;plain 4;plain 5;widow A", 5, 40);
        faultAt("rope 0 1 1;rope 0 1 1;rope 0 1 1;rope 0 1 1;rope 0 1 1;rope 0 1 1;rope 9", 5, 66);

        faultAt("cross 0 1 1;", 6, 12);
        faultAt("rope 1 0 1; plain 3; ", 6, 21);
        faultAt("cross 1 2 3;plain 3;plain 4;", 6, 28);
        faultAt("cross 1 2 3;plain 3;plain 4;A", 1, 28);
        told("cross 1 2 3;rope 2 0 1;plain 3;plain 4;plain 5;");
        TemperIsles x = new TemperIsles();
        due("fault()", x.fault(), 0);
    }

    private static void asked() {
        TemperIsles x = told("plain 50;proud 20;fond 80;widow 90;cross 0 1 3;cross 0 2 2;cross 1 0 3;cross 2 0 3;cross 3 0 3;rope 0 1 30;rope 2 0 29;feast 4;");
        promise = "promise 6";
        int[] rules = {4, 2, 0, 4, 0, 70};
        for (int w = 0; w < 6; w++) {
            due("rule(" + w + ")", x.rule(w), rules[w]);
        }
        due("rule(-1)", x.rule(-1), BAD);
        due("rule(6)", x.rule(6), BAD);
        x.days(3);
        due("rule(2)", x.rule(2), 3);
        due("SPREAD of one isle", told("plain 9;").rule(5), 0);

        promise = "promise 7";
        x = told("plain 50;proud 20;fond 80;widow 90;cross 0 1 3;cross 0 2 2;cross 1 0 3;cross 2 0 3;cross 3 0 3;rope 0 1 30;rope 2 0 29;");
        int[][] want = {{0, 50, 2, 1, 1, 1}, {1, 20, 1, 6, 0, 0}, {2, 80, 1, 1, 1, 3}, {3, 90, 0, 5, 1, 2}};
        for (int i = 0; i < 4; i++) {
            for (int w = 0; w < 6; w++) {
                due("isle(" + i + ", " + w + ")", x.isle(i, w), want[i][w]);
            }
            due("isle(" + i + ", 6)", x.isle(i, 6), BAD);
            due("isle(" + i + ", -1)", x.isle(i, -1), BAD);
        }
        due("isle(4, 0)", x.isle(4, 0), BAD);
        due("isle(-1, 0)", x.isle(-1, 0), BAD);
        due("isle(MOST, 5)", x.isle(MOST, 5), BAD);
        TemperIsles alone = told("widow 9;");
        due("isle(0, 5)", alone.isle(0, 5), NONE);
        due("isle(0, 3)", alone.isle(0, 3), 0);
        due("isle(0, 4)", alone.isle(0, 4), 0);
        TemperIsles fond = told("fond 9;plain 3;cross 0 1 1;");
        due("isle(0, 3)", fond.isle(0, 3), 0);
        due("isle(0, 4)", fond.isle(0, 4), 0);
        TemperIsles low = told("fond 9;plain 30;cross 0 1 3;");
        due("isle(0, 3)", low.isle(0, 3), 1);
        due("isle(0, 4)", low.isle(0, 4), 0);
        TemperIsles between = told("plain 9;plain 3;plain 15;");
        due("isle(0, 5)", between.isle(0, 5), 1);

        promise = "promise 8";
        due("cross(0, 1)", x.cross(0, 1), 3);
        due("cross(0, 2)", x.cross(0, 2), 2);
        due("cross(2, 1)", x.cross(2, 1), 0);
        due("cross(1, 1)", x.cross(1, 1), BAD);
        due("cross(4, 1)", x.cross(4, 1), BAD);
        due("cross(1, 4)", x.cross(1, 4), BAD);
        due("cross(-1, 0)", x.cross(-1, 0), BAD);
        due("cross(0, LEAST)", x.cross(0, LEAST), BAD);

        promise = "promise 9";
        due("rope(0, 0)", x.rope(0, 0), 0);
        due("rope(0, 1)", x.rope(0, 1), 1);
        due("rope(0, 2)", x.rope(0, 2), 30);
        due("rope(1, 0)", x.rope(1, 0), 2);
        due("rope(1, 1)", x.rope(1, 1), 0);
        due("rope(1, 2)", x.rope(1, 2), 29);
        due("rope(2, 0)", x.rope(2, 0), BAD);
        due("rope(-1, 0)", x.rope(-1, 0), BAD);
        due("rope(0, 3)", x.rope(0, 3), BAD);
        due("rope(0, -1)", x.rope(0, -1), BAD);

        promise = "promise 10";
        due("far(0, 1)", x.far(0, 1), 30);
        due("far(1, 3)", x.far(1, 3), 70);
        due("far(3, 1)", x.far(3, 1), 70);
        due("far(3, 3)", x.far(3, 3), BAD);
        due("far(3, 4)", x.far(3, 4), BAD);
        due("far(-1, 0)", x.far(-1, 0), BAD);
    }

    // ---------------------------------------------------------------- what is changed

    private static void changed() {
        TemperIsles x = told("plain 10;proud 20;cross 0 1 1;rope 0 1 30;feast 2;");
        promise = "promise 11";
        due("alter(0, 0, 3)", x.alter(0, 0, 3), 0);
        due("alter(0, 0, 2)", x.alter(0, 0, 2), 3);
        due("isle(0, 0)", x.isle(0, 0), 2);
        due("alter(0, 0, 4)", x.alter(0, 0, 4), BAD);
        due("alter(0, 0, -1)", x.alter(0, 0, -1), BAD);
        due("alter(0, 1, 20)", x.alter(0, 1, 20), BAD);
        due("alter(0, 1, 10)", x.alter(0, 1, 10), 10);
        due("alter(0, 1, 99)", x.alter(0, 1, 99), 10);
        due("alter(0, 1, 0)", x.alter(0, 1, 0), 99);
        due("alter(0, 1, 100)", x.alter(0, 1, 100), BAD);
        due("alter(0, 1, -1)", x.alter(0, 1, -1), BAD);
        due("alter(0, 2, 1)", x.alter(0, 2, 1), BAD);
        due("alter(0, -1, 1)", x.alter(0, -1, 1), BAD);
        due("alter(2, 0, 1)", x.alter(2, 0, 1), BAD);
        due("alter(-1, 1, 1)", x.alter(-1, 1, 1), BAD);
        places(x, 0, 20);

        promise = "promise 12";
        due("sulk(0, 1, 3)", x.sulk(0, 1, 3), 1);
        due("sulk(0, 1, 0)", x.sulk(0, 1, 0), 3);
        due("sulk(1, 0, 2)", x.sulk(1, 0, 2), 0);
        due("sulk(1, 0, 4)", x.sulk(1, 0, 4), BAD);
        due("sulk(1, 0, -1)", x.sulk(1, 0, -1), BAD);
        due("sulk(1, 1, 1)", x.sulk(1, 1, 1), BAD);
        due("sulk(1, 2, 1)", x.sulk(1, 2, 1), BAD);
        due("sulk(2, 1, 1)", x.sulk(2, 1, 1), BAD);
        due("cross(0, 1)", x.cross(0, 1), 0);
        due("cross(1, 0)", x.cross(1, 0), 2);

        promise = "promise 13";
        due("haul(0, 1)", x.haul(0, 1), 30);
        due("haul(0, 30)", x.haul(0, 30), 1);
        due("haul(0, 31)", x.haul(0, 31), BAD);
        due("haul(0, 0)", x.haul(0, 0), BAD);
        due("haul(1, 5)", x.haul(1, 5), BAD);
        due("haul(-1, 5)", x.haul(-1, 5), BAD);
        due("rope(0, 2)", x.rope(0, 2), 30);

        promise = "promise 14";
        due("wed(1, 0, 1)", x.wed(1, 0, 1), 2);
        due("rope(1, 0)", x.rope(1, 0), 1);
        due("rope(1, 1)", x.rope(1, 1), 0);
        due("rope(1, 2)", x.rope(1, 2), 1);
        due("wed(1, 1, 1)", x.wed(1, 1, 1), BAD);
        due("wed(1, 2, 1)", x.wed(1, 2, 1), BAD);
        due("wed(-1, 1, 1)", x.wed(-1, 1, 1), BAD);
        due("wed(0, 1, 0)", x.wed(0, 1, 0), BAD);
        due("wed(0, 1, 31)", x.wed(0, 1, 31), BAD);
        for (int n = 3; n <= 6; n++) {
            due("wed(0, 1, 30)", x.wed(0, 1, 30), n);
        }
        due("wed(0, 1, 30)", x.wed(0, 1, 30), FULL);
        due("wed(0, 1, 31)", x.wed(0, 1, 31), BAD);
        due("rule(1)", x.rule(1), 6);

        promise = "promise 15";
        due("loose(7)", x.loose(7), BAD);
        due("loose(-1)", x.loose(-1), BAD);
        due("loose(6)", x.loose(6), 6);
        due("loose(2)", x.loose(2), 6);
        due("loose(3)", x.loose(3), BAD);
        due("rule(1)", x.rule(1), 2);
        due("rope(1, 2)", x.rope(1, 2), 1);
        due("loose(0)", x.loose(0), 2);
        due("rope(0, 0)", x.rope(0, 0), BAD);

        promise = "promise 16";
        due("feast(6)", x.feast(6), 2);
        due("feast(0)", x.feast(0), 6);
        due("feast(7)", x.feast(7), BAD);
        due("feast(-1)", x.feast(-1), BAD);
        due("rule(3)", x.rule(3), 0);
    }

    // ---------------------------------------------------------------- days

    private static void daysDrift() {
        promise = "promise 17";
        TemperIsles x = told("plain 10;proud 20;fond 30;widow 40;cross 0 1 3;cross 1 0 3;cross 2 0 3;cross 3 0 3;feast 6;");
        due("days(0)", x.days(0), 0);
        places(x, 10, 20, 30, 40);
        due("days(1)", x.days(1), 0);
        places(x, 7, 26, 31, 45);
        due("days(1)", x.days(1), 1);
        places(x, 4, 30, 32, 50);

        x = told("proud 97;plain 50;proud 2;cross 0 1 3;cross 2 1 3;feast 6;");
        due("days(3)", x.days(3), 0);
        places(x, 99, 50, 0);

        // By order, each as it finds the others: the second looks where the first has gone.
        x = told("plain 10;plain 11;cross 0 1 1;cross 1 0 2;feast 6;");
        due("days(1)", x.days(1), 0);
        places(x, 9, 13);
        x = told("plain 11;plain 10;plain 9;cross 0 1 1;cross 1 2 2;feast 6;");
        due("days(1)", x.days(1), 1);
        places(x, 12, 11, 9);

        x = told("plain 10;plain 12;plain 15;cross 1 2 3;feast 6;");
        due("days(1)", x.days(1), 1);
        places(x, 10, 11, 15);
        due("days(2)", x.days(2), 2);
        due("rule(4)", x.rule(4), 3);

        x = told("plain 10;plain 12;rope 0 1 4;cross 0 1 3;feast 6;");
        due("days(1)", x.days(1), 0);
        places(x, 8, 12);
        x = told("plain 10;plain 12;rope 1 0 4;cross 0 1 3;feast 6;");
        due("days(1)", x.days(1), 0);
        places(x, 8, 12);

        // Too long already: it may not grow, but an isle may come nearer.
        x = told("plain 10;plain 30;rope 0 1 5;cross 1 0 3;feast 6;");
        due("days(2)", x.days(2), 0);
        places(x, 10, 30);
        x = told("plain 10;plain 30;plain 40;rope 0 1 5;cross 1 2 3;feast 6;");
        due("days(1)", x.days(1), 0);
        places(x, 10, 27, 40);
        // Of several ropes each may hold, whichever end the isle is.
        x = told("plain 30;plain 20;plain 40;rope 1 2 30;rope 0 2 5;cross 2 1 3;feast 6;");
        due("days(1)", x.days(1), 0);
        places(x, 30, 20, 40);

        // A rope that holds is looked at ahead of who is there: no bump.
        x = told("plain 10;plain 12;plain 13;rope 0 1 2;cross 1 0 1;feast 6;");
        due("days(1)", x.days(1), 0);
        places(x, 10, 12, 13);
        due("loose(0)", x.loose(0), 1);
        due("days(1)", x.days(1), 1);
    }

    private static void daysFeast() {
        TemperIsles x = told("plain 10;plain 20;plain 30;");
        due("days(1)", x.days(1), 0);
        places(x, 11, 19, 29);
        due("days(6)", x.days(6), 0);
        places(x, 11, 19, 29);
        due("days(1)", x.days(1), 0);
        places(x, 12, 18, 28);

        x = told("plain 20;plain 10;plain 30;");
        x.days(1);
        places(x, 19, 11, 29);
        x = told("plain 20;plain 30;plain 10;");
        x.days(1);
        places(x, 21, 29, 11);
        x = told("proud 10;proud 11;cross 0 1 3;cross 1 0 3;");
        due("days(1)", x.days(1), 0);
        places(x, 10, 11);
        x = told("plain 10;plain 20;plain 50;rope 1 2 30;");
        x.days(1);
        places(x, 11, 20, 49);
        x = told("plain 10;");
        x.days(1);
        places(x, 10);
        due("rule(2)", x.rule(2), 1);

        x = told("plain 10;plain 20;feast 3;");
        x.days(3);
        places(x, 10, 20);
        x.days(1);
        places(x, 11, 19);

        due("days(-1)", x.days(-1), BAD);
        due("days(31)", x.days(31), BAD);
        for (int n = 0; n < 32; n++) {
            x.days(30);
        }
        due("rule(2)", x.rule(2), 964);
        due("days(30)", x.days(30), 0);
        due("days(6)", x.days(6), FULL);
        due("days(31)", x.days(31), BAD);
        due("rule(2)", x.rule(2), 994);
        due("days(5)", x.days(5), 0);
        due("days(0)", x.days(0), 0);
        due("days(1)", x.days(1), FULL);
        due("rule(2)", x.rule(2), 999);
        due("runs(60, 0)", x.runs(60, 0), 1);
    }

    private static void byDays() {
        promise = "promise 18";
        TemperIsles x = told("plain 10;plain 12;cross 0 1 2;");
        due("runs(0, 0)", x.runs(0, 0), 2);
        due("runs(1, 0)", x.runs(1, 0), 1);
        due("runs(2, 0)", x.runs(2, 0), 3);
        due("runs(3, 0)", x.runs(3, 0), 5);
        due("runs(0, 2)", x.runs(0, 2), 2);
        due("runs(3, 2)", x.runs(3, 2), 1);
        due("runs(0, 3)", x.runs(0, 3), 0);
        due("runs(3, 3)", x.runs(3, 3), 1);
        due("runs(3, 1)", x.runs(3, 1), 0);
        due("runs(60, 4)", x.runs(60, 4), BAD);
        due("runs(60, -1)", x.runs(60, -1), BAD);
        due("runs(61, 0)", x.runs(61, 0), BAD);
        due("runs(-1, 0)", x.runs(-1, 0), BAD);
        TemperIsles y = told("plain 10;plain 12;plain 15;cross 1 2 3;feast 6;");
        due("runs(6, 1)", y.runs(6, 1), 6);
        due("runs(7, 1)", y.runs(7, 1), 6);
        due("runs(8, 1)", y.runs(8, 1), 7);
        y.days(2);
        due("rule(4)", y.rule(4), 2);
        due("runs(4, 1)", y.runs(4, 1), 4);
        due("runs(4, 2)", y.runs(4, 2), 5);
        due("runs(5, 0)", y.runs(5, 0), 4);
        due("no isles: runs(60, 0)", new TemperIsles().runs(60, 0), 0);

        promise = "promise 19";
        due("ahead(0, 0)", x.ahead(0, 0), 10);
        due("ahead(0, 1)", x.ahead(0, 1), 11);
        due("ahead(0, 3)", x.ahead(0, 3), 7);
        due("ahead(1, 3)", x.ahead(1, 3), 12);
        due("ahead(2, 3)", x.ahead(2, 3), BAD);
        due("ahead(-1, 3)", x.ahead(-1, 3), BAD);
        due("ahead(0, 61)", x.ahead(0, 61), BAD);
        due("ahead(0, -1)", x.ahead(0, -1), BAD);

        promise = "promise 20";
        due("within(2)", x.within(2), 0);
        due("within(1)", x.within(1), 1);
        due("within(0)", x.within(0), NONE);
        due("within(99)", x.within(99), 0);
        due("within(100)", x.within(100), BAD);
        due("within(-1)", x.within(-1), BAD);
        due("no isles: within(0)", new TemperIsles().within(0), 0);
        // Feasts are on days 3, 10 to 59: each brings the two, 19 apart, 2 fathoms nearer, the ninth behind 60 days.
        TemperIsles z = told("plain 10;plain 29;feast 3;");
        due("within(3)", z.within(3), 53);
        due("within(1)", z.within(1), 60);
        due("runs(60, 0)", z.runs(60, 0), 1);
        due("rule(2)", z.rule(2), 0);
    }

    // ---------------------------------------------------------------- what is best

    private static void advice() {
        promise = "promise 21";
        TemperIsles x = told("plain 10;plain 12;cross 0 1 1;feast 6;");
        due("runs(30, 0)", x.runs(30, 0), 8);
        due("match(5, 0)", x.match(5, 0), 1);
        due("match(5, 1)", x.match(5, 1), 5);
        due("match(7, 1)", x.match(7, 1), 7);
        due("match(8, 0)", x.match(8, 0), NONE);
        due("match(8, 1)", x.match(8, 1), NONE);
        due("match(0, 0)", x.match(0, 0), BAD);
        due("match(31, 0)", x.match(31, 0), BAD);
        due("match(5, 2)", x.match(5, 2), BAD);
        due("match(5, -1)", x.match(5, -1), BAD);
        due("rule(1)", x.rule(1), 0);
        // Ropes that are too long already hold alike, 0 by 1 as well as 0 by 2.
        TemperIsles alike = told("plain 40;plain 50;plain 51;cross 0 1 1;feast 6;");
        due("match(1, 0)", alike.match(1, 0), 1);
        due("match(1, 1)", alike.match(1, 1), 7);
        TemperIsles last = told("plain 51;plain 50;plain 40;cross 2 1 1;feast 6;");
        due("match(11, 0)", last.match(11, 0), 2);
        TemperIsles upper = told("plain 51;plain 50;plain 52;cross 2 1 1;feast 6;");
        due("match(10, 0)", upper.match(10, 0), 12);
        due("match(10, 1)", upper.match(10, 1), 10);
        for (int n = 0; n < 6; n++) {
            alike.wed(1, 2, 30);
        }
        due("match(1, 0)", alike.match(1, 0), FULL);
        due("match(0, 0)", alike.match(0, 0), BAD);
        due("one isle: match(1, 0)", told("plain 4;").match(1, 0), NONE);

        promise = "promise 22";
        x = told("plain 60;plain 62;plain 65;cross 0 1 1;cross 1 2 1;rope 1 2 30;rope 0 2 5;feast 6;");
        due("runs(3, 1)", x.runs(3, 1), 2);
        due("fray(0)", x.fray(0), 1);
        due("fray(1)", x.fray(1), 0);
        due("fray(2)", x.fray(2), BAD);
        due("fray(-1)", x.fray(-1), BAD);
        due("rule(1)", x.rule(1), 2);
        x.days(1);
        due("fray(1)", x.fray(1), 0);
        due("wed(0, 2, 5)", x.wed(0, 2, 5), 3);
        due("fray(0)", x.fray(0), NONE);
        due("fray(1)", x.fray(1), NONE);
        x = told("plain 60;plain 62;plain 65;cross 0 1 1;cross 1 2 1;rope 0 2 5;rope 1 2 30;feast 6;");
        due("fray(0)", x.fray(0), 0);
        due("no ropes: fray(0)", told("plain 4;").fray(0), NONE);

        promise = "promise 23";
        x = told("plain 50;plain 52;plain 53;cross 0 1 1;cross 0 2 1;feast 6;");
        due("soothe(0)", x.soothe(0), 1);
        due("soothe(1)", x.soothe(1), 25);
        due("soothe(2)", x.soothe(2), BAD);
        due("soothe(-1)", x.soothe(-1), BAD);
        due("cross(0, 1)", x.cross(0, 1), 1);
        x = told("plain 50;plain 48;cross 1 0 1;feast 6;");
        due("soothe(0)", x.soothe(0), 10);
        due("soothe(1)", x.soothe(1), 1);
        x.sulk(1, 0, 0);
        due("soothe(0)", x.soothe(0), NONE);
        due("soothe(1)", x.soothe(1), NONE);
    }

    private static void choices() {
        promise = "promise 24";
        TemperIsles x = told("plain 10;plain 20;feast 6;");
        due("holy(1, 0)", x.holy(1, 0), 0);
        due("holy(1, 1)", x.holy(1, 1), 8);
        due("holy(0, 0)", x.holy(0, 0), 0);
        due("holy(0, 1)", x.holy(0, 1), 10);
        x.days(1);
        due("holy(1, 0)", x.holy(1, 0), 1);
        due("holy(3, 0)", x.holy(3, 0), 1);
        due("holy(60, 1)", x.holy(60, 1), 1);
        due("holy(61, 0)", x.holy(61, 0), BAD);
        due("holy(-1, 0)", x.holy(-1, 0), BAD);
        due("holy(1, 2)", x.holy(1, 2), BAD);
        due("rule(3)", x.rule(3), 6);
        x.days(5);
        due("holy(1, 0)", x.holy(1, 0), 6);
        due("no isles: holy(9, 0)", new TemperIsles().holy(9, 0), 0);
        due("no isles: holy(9, 1)", new TemperIsles().holy(9, 1), 0);

        promise = "promise 25";
        x = told("plain 50;plain 40;cross 0 1 3;feast 6;");
        due("kind(0, 1, 0)", x.kind(0, 1, 0), 2);
        due("kind(0, 1, 1)", x.kind(0, 1, 1), 11);
        due("kind(0, 0, 0)", x.kind(0, 0, 0), 0);
        due("kind(0, 0, 1)", x.kind(0, 0, 1), 10);
        due("kind(1, 1, 0)", x.kind(1, 1, 0), 0);
        due("kind(1, 1, 1)", x.kind(1, 1, 1), 13);
        due("kind(2, 1, 1)", x.kind(2, 1, 1), BAD);
        due("kind(-1, 1, 1)", x.kind(-1, 1, 1), BAD);
        due("kind(0, 61, 1)", x.kind(0, 61, 1), BAD);
        due("kind(0, -1, 1)", x.kind(0, -1, 1), BAD);
        due("kind(0, 1, 2)", x.kind(0, 1, 2), BAD);
        due("isle(0, 0)", x.isle(0, 0), 0);

        promise = "promise 26";
        x = told("plain 10;plain 12;rope 0 1 4;cross 0 1 3;feast 6;");
        due("slack(0, 1, 5)", x.slack(0, 1, 5), 30);
        due("slack(0, 1, 4)", x.slack(0, 1, 4), 4);
        due("slack(0, 1, 3)", x.slack(0, 1, 3), 3);
        due("slack(0, 1, 2)", x.slack(0, 1, 2), 2);
        due("slack(0, 1, 1)", x.slack(0, 1, 1), NONE);
        due("slack(0, 1, 0)", x.slack(0, 1, 0), NONE);
        due("slack(0, 0, 2)", x.slack(0, 0, 2), 30);
        due("slack(0, 60, 99)", x.slack(0, 60, 99), 30);
        due("slack(1, 1, 5)", x.slack(1, 1, 5), BAD);
        due("slack(-1, 1, 5)", x.slack(-1, 1, 5), BAD);
        due("slack(0, 61, 5)", x.slack(0, 61, 5), BAD);
        due("slack(0, -1, 5)", x.slack(0, -1, 5), BAD);
        due("slack(0, 1, 100)", x.slack(0, 1, 100), BAD);
        due("slack(0, 1, -1)", x.slack(0, 1, -1), BAD);
        due("rope(0, 2)", x.rope(0, 2), 4);
        x = told("plain 10;plain 11;rope 0 1 4;cross 0 1 3;feast 6;");
        due("slack(0, 1, 1)", x.slack(0, 1, 1), 1);
    }

    private static void storms() {
        promise = "promise 27";
        TemperIsles x = told("plain 10;plain 12;cross 0 1 1;feast 6;");
        long[][] luck = {{3, 2, 3, 51, 100}, {3, 2, 2, 9, 100}, {3, 2, 1, 0, 1}, {3, 2, 4, 1, 1}, {5, 1, 2, 1, 2}, {10, 8, 2, 1, 1}, {0, 5, 6, 0, 1}, {0, 5, 7, 1, 1}, {4, 0, 2, 1, 1}, {4, 0, 1, 0, 1}, {2, 6, 7, 11529, 15625}};
        for (long[] row : luck) {
            due("luck(" + row[0] + ", " + row[1] + ", " + row[2] + ", 0)", x.luck((int) row[0], (int) row[1], (int) row[2], 0), row[3]);
            due("luck(" + row[0] + ", " + row[1] + ", " + row[2] + ", 1)", x.luck((int) row[0], (int) row[1], (int) row[2], 1), row[4]);
        }
        due("no isles: luck(5, 8, 0, 0)", new TemperIsles().luck(5, 8, 0, 0), 1);
        due("no isles: luck(5, 8, 0, 1)", new TemperIsles().luck(5, 8, 0, 1), 1);
        due("luck(-1, 1, 1, 0)", x.luck(-1, 1, 1, 0), BAD);
        due("luck(11, 1, 1, 0)", x.luck(11, 1, 1, 0), BAD);
        due("luck(1, -1, 1, 0)", x.luck(1, -1, 1, 0), BAD);
        due("luck(1, 9, 1, 0)", x.luck(1, 9, 1, 0), BAD);
        due("luck(1, 1, -1, 0)", x.luck(1, 1, -1, 0), BAD);
        due("luck(1, 1, 100, 0)", x.luck(1, 1, 100, 0), BAD);
        due("luck(1, 1, 1, 2)", x.luck(1, 1, 1, 2), BAD);
        due("luck(1, 1, 1, -1)", x.luck(1, 1, 1, -1), BAD);
        places(x, 10, 12);
        due("rule(2)", x.rule(2), 0);

        promise = "promise 28";
        due("mean(3, 2, 0)", x.mean(3, 2, 0), 17);
        due("mean(3, 2, 1)", x.mean(3, 2, 1), 5);
        due("mean(0, 3, 0)", x.mean(0, 3, 0), 5);
        due("mean(0, 3, 1)", x.mean(0, 3, 1), 1);
        due("mean(10, 8, 0)", x.mean(10, 8, 0), 2);
        due("mean(7, 0, 0)", x.mean(7, 0, 0), 2);
        due("mean(7, 0, 1)", x.mean(7, 0, 1), 1);
        due("mean(-1, 1, 0)", x.mean(-1, 1, 0), BAD);
        due("mean(11, 1, 0)", x.mean(11, 1, 0), BAD);
        due("mean(1, 9, 0)", x.mean(1, 9, 0), BAD);
        due("mean(1, -1, 0)", x.mean(1, -1, 0), BAD);
        due("mean(1, 1, 2)", x.mean(1, 1, 2), BAD);
        due("mean(1, 1, -1)", x.mean(1, 1, -1), BAD);
        due("no isles: mean(5, 8, 0)", new TemperIsles().mean(5, 8, 0), 0);
        due("no isles: mean(5, 8, 1)", new TemperIsles().mean(5, 8, 1), 1);

        // The day goes by in a storm too: a feast comes when it is due, and a storm may fall on it.
        TemperIsles y = told("plain 10;plain 12;cross 0 1 1;feast 1;");
        due("mean(5, 2, 0)", y.mean(5, 2, 0), 7);
        due("mean(5, 2, 1)", y.mean(5, 2, 1), 4);
        due("luck(5, 2, 1, 0)", y.luck(5, 2, 1, 0), 1);
        due("luck(5, 2, 1, 1)", y.luck(5, 2, 1, 1), 2);
        due("luck(5, 2, 2, 0)", y.luck(5, 2, 2, 0), 3);
        due("luck(5, 2, 2, 1)", y.luck(5, 2, 2, 1), 4);
    }

    // ---------------------------------------------------------------- what was seen

    private static void seen() {
        promise = "promise 29";
        TemperIsles x = told("plain 50;plain 40;cross 0 1 3;feast 6;");
        due("see(-1, 0, 0)", x.see(-1, 0, 0), BAD);
        due("see(21, 0, 0)", x.see(21, 0, 0), BAD);
        due("see(0, 2, 0)", x.see(0, 2, 0), BAD);
        due("see(0, -1, 0)", x.see(0, -1, 0), BAD);
        due("see(0, 0, 100)", x.see(0, 0, 100), BAD);
        due("see(0, 0, -1)", x.see(0, 0, -1), BAD);
        for (int n = 1; n <= 6; n++) {
            due("see(20, 1, 99)", x.see(20, 1, 99), n);
        }
        due("see(0, 0, 0)", x.see(0, 0, 0), FULL);
        due("see(21, 0, 0)", x.see(21, 0, 0), BAD);
        due("count(0)", x.count(0), 6);

        promise = "promise 30";
        due("forget(7)", x.forget(7), BAD);
        due("forget(-1)", x.forget(-1), BAD);
        due("forget(6)", x.forget(6), 6);
        due("forget(1)", x.forget(1), 6);
        due("forget(2)", x.forget(2), BAD);
        due("kinds(0)", x.kinds(0), 0);
        due("forget(0)", x.forget(0), 1);

        promise = "promise 31";
        due("kinds(0)", x.kinds(0), 15);
        int[][] kinds = {{53, 1}, {56, 2}, {51, 4}, {55, 8}, {52, 0}};
        for (int[] row : kinds) {
            x.see(1, 0, row[0]);
            due("kinds(0)", x.kinds(0), row[1]);
            x.forget(0);
        }
        x.see(1, 1, 40);
        due("kinds(0)", x.kinds(0), 15);
        due("kinds(1)", x.kinds(1), 15);
        x.see(0, 0, 50);
        due("kinds(0)", x.kinds(0), 15);
        x.see(2, 0, 56);
        due("kinds(0)", x.kinds(0), 1);
        x.see(3, 0, 60);
        due("kinds(0)", x.kinds(0), 0);
        due("kinds(2)", x.kinds(2), BAD);
        due("kinds(-1)", x.kinds(-1), BAD);
        due("isle(0, 0)", x.isle(0, 0), 0);

        promise = "promise 32";
        x.forget(0);
        due("sulks(0, 1)", x.sulks(0, 1), 15);
        for (int v = 0; v < 4; v++) {
            x.see(1, 0, 50 + v);
            due("sulks(0, 1)", x.sulks(0, 1), 1 << v);
            due("sulks(1, 0)", x.sulks(1, 0), v == 3 ? 15 : 0);
            x.forget(0);
        }
        x.alter(0, 0, 2);
        x.see(1, 0, 51);
        due("sulks(0, 1)", x.sulks(0, 1), 12);
        due("sulks(0, 0)", x.sulks(0, 0), BAD);
        due("sulks(0, 2)", x.sulks(0, 2), BAD);
        due("sulks(-1, 0)", x.sulks(-1, 0), BAD);
        due("cross(0, 1)", x.cross(0, 1), 3);
    }

    private static void asking() {
        promise = "promise 33";
        TemperIsles x = told("plain 50;plain 40;cross 0 1 3;feast 6;");
        due("ask(0, 0)", x.ask(0, 0), 10);
        due("ask(0, 1)", x.ask(0, 1), 1);
        due("ask(1, 0)", x.ask(1, 0), NONE);
        due("ask(1, 1)", x.ask(1, 1), NONE);
        x.see(1, 0, 53);
        due("ask(0, 0)", x.ask(0, 0), NONE);
        x.see(1, 0, 54);
        due("ask(0, 1)", x.ask(0, 1), NONE);
        due("ask(2, 0)", x.ask(2, 0), BAD);
        due("ask(-1, 0)", x.ask(-1, 0), BAD);
        due("ask(0, 2)", x.ask(0, 2), BAD);
        due("ask(0, -1)", x.ask(0, -1), BAD);
        // Cross by 1: a plain one and a widow are alike for ever.
        x = told("plain 50;plain 40;cross 0 1 1;feast 6;");
        due("ask(0, 0)", x.ask(0, 0), 10);
        due("ask(0, 1)", x.ask(0, 1), 2);
        x.see(1, 0, 51);
        due("kinds(0)", x.kinds(0), 9);
        due("ask(0, 0)", x.ask(0, 0), NONE);
        // With a feast first, nothing tells them apart ahead of the second day.
        x = told("plain 50;plain 40;cross 0 1 3;");
        due("ask(0, 0)", x.ask(0, 0), 20);
        // At the last fathom all kinds stay alike.
        x = told("plain 99;plain 98;cross 0 1 3;");
        due("ask(0, 0)", x.ask(0, 0), NONE);
        x = told("plain 40;plain 50;cross 1 0 3;feast 6;");
        due("ask(1, 0)", x.ask(1, 0), 11);
        // Its rope is too long till the third feast (on day 18): only then may it drift, and a fond one does not.
        x = told("fond 1;fond 9;cross 1 0 1;rope 1 0 3;feast 4;");
        due("ask(1, 0)", x.ask(1, 0), 201);
        due("ask(1, 1)", x.ask(1, 1), 3);
    }

    private static void seeds() {
        promise = "promise 34";
        TemperIsles x = told("plain 10;plain 20;plain 30;feast 6;");
        due("drift(1, 1, 0)", x.drift(1, 1, 0), 23);
        due("drift(1, 2, 0)", x.drift(1, 2, 0), 26);
        due("drift(1, 3, 0)", x.drift(1, 3, 0), 31);
        due("drift(1, 4, 0)", x.drift(1, 4, 0), 36);
        due("drift(1, 5, 0)", x.drift(1, 5, 0), 41);
        due("drift(1, 6, 0)", x.drift(1, 6, 0), 46);
        due("drift(1, 2, 1)", x.drift(1, 2, 1), 0);
        due("drift(0, 1, 0)", x.drift(0, 1, 0), 20);
        due("cross(2, 1)", x.cross(2, 1), 0);
        due("rule(2)", x.rule(2), 0);
        due("drift(1, 0, 0)", x.drift(1, 0, 0), BAD);
        due("drift(1, 61, 0)", x.drift(1, 61, 0), BAD);
        due("drift(1, 1, 2)", x.drift(1, 1, 2), BAD);
        due("drift(1, 1, -1)", x.drift(1, 1, -1), BAD);
        x = told("plain 18;plain 30;plain 20;feast 6;");
        due("drift(1, 1, 1)", x.drift(1, 1, 1), 1);
        x.sulk(2, 1, 2);
        x.days(1);
        due("rule(4)", x.rule(4), 1);
        due("drift(1, 1, 1)", x.drift(1, 1, 1), 1);
        TemperIsles none = new TemperIsles();
        due("drift(1, 1, 0)", none.drift(1, 1, 0), STATE);
        due("drift(1, 0, 0)", none.drift(1, 0, 0), BAD);
        due("one isle: drift(LEAST, 60, 0)", told("plain 1;").drift(LEAST, 60, 0), 0);
    }

    // ---------------------------------------------------------------- images, sheets

    private static void images() {
        promise = "promise 35";
        TemperIsles x = told("plain 10;proud 12;plain 15;cross 1 2 3;rope 0 2 9;feast 6;");
        due("keep(2)", x.keep(2), BAD);
        due("keep(-1)", x.keep(-1), BAD);
        x.days(2);
        x.see(4, 1, 11);
        due("keep(1)", x.keep(1), 0);
        due("count(1)", x.count(1), 1);
        due("keep(0)", x.keep(0), 0);
        due("keep(0)", x.keep(0), 1);
        due("count(1)", x.count(1), 2);
        List<Long> before = state(x);

        promise = "promise 36";
        x.alter(0, 0, 3);
        x.alter(0, 1, 3);
        x.sulk(0, 1, 3);
        x.haul(0, 4);
        x.wed(0, 1, 5);
        x.feast(1);
        x.days(9);
        x.see(1, 1, 1);
        x.forget(1);
        x.forget(0);
        x.see(7, 2, 2);
        x.see(7, 2, 2);
        due("back(0)", x.back(0), 2);
        due("all is as it was", before.equals(state(x)) ? 0 : 1, 0);
        x.days(3);
        due("back(1)", x.back(1), 2);
        due("back(1)", x.back(1), 2);
        due("all is as it was", before.equals(state(x)) ? 0 : 1, 0);
        due("rule(4)", x.rule(4), 2);
        due("back(2)", x.back(2), BAD);
        due("back(-1)", x.back(-1), BAD);
        TemperIsles y = told("plain 1;");
        y.keep(0);
        due("back(1)", y.back(1), STATE);
    }

    private static void sheets() {
        promise = "promise 37";
        TemperIsles x = told("plain 10;plain 20;plain 30;");
        due("sheet(0, 0, 0)", x.sheet(0, 0, 0), 1);
        due("count(3)", x.count(3), 0);
        due("sheet(0, 2, 40)", x.sheet(0, 2, 40), 1);
        due("count(3)", x.count(3), 40);
        due("sheet(0, 0, 41)", x.sheet(0, 0, 41), BAD);
        due("sheet(0, 0, -1)", x.sheet(0, 0, -1), -14);
        due("sheet(0, 0, LEAST)", x.sheet(0, 0, LEAST), -14);
        due("sheet(4, 0, -1)", x.sheet(4, 0, -1), BAD);
        due("sheet(-1, 0, 1)", x.sheet(-1, 0, 1), BAD);
        due("sheet(0, 3, -1)", x.sheet(0, 3, -1), BAD);
        due("sheet(0, -1, 1)", x.sheet(0, -1, 1), BAD);
        due("count(3)", x.count(3), 40);
        due("sheet(3, 1, 3)", x.sheet(3, 1, 3), 1);
        due("count(3)", x.count(3), 40);

        promise = "promise 38";
        due("lay(3, 0, 65537)", x.lay(3, 0, 65537), 1);
        due("lay(3, 1, 2)", x.lay(3, 1, 2), 1);
        due("lay(3, 2, -65533)", x.lay(3, 2, -65533), 1);
        due("lay(3, 3, 0)", x.lay(3, 3, 0), -12);
        due("lay(3, -1, 0)", x.lay(3, -1, 0), -12);
        due("lay(2, 0, 0)", x.lay(2, 0, 0), -11);
        due("lay(2, -1, 0)", x.lay(2, -1, 0), -11);
        due("lay(4, 0, 0)", x.lay(4, 0, 0), BAD);
        due("lay(-1, 0, 0)", x.lay(-1, 0, 0), BAD);
        due("read(3, 1, 0, 1)", x.read(3, 1, 0, 1), 1);
        due("cross(1, 2)", x.cross(1, 2), 3);
        x.sheet(1, 0, 3);
        x.lay(1, 0, 256 + 2);
        x.lay(1, 2, -254);
        due("read(1, 0, 0, 1)", x.read(1, 0, 0, 1), 1);
        due("cross(2, 0)", x.cross(2, 0), 2);
        x.lay(1, 2, 130);
        due("read(1, 0, 0, 1)", x.read(1, 0, 0, 1), -20);
        x.sheet(1, 2, 3);
        x.lay(1, 0, 256);
        x.lay(1, 1, 1);
        due("read(1, 2, 0, 1)", x.read(1, 2, 0, 1), -20);
        x.sheet(1, 2, 3);
        due("a new row is of 0", x.read(1, 2, 0, 1), -20);
        x.lay(1, 1, 1);
        due("read(1, 2, 0, 1)", x.read(1, 2, 0, 1), 1);
    }

    private static void lay(TemperIsles x, int k, int... cells) {
        for (int c = 0; c < cells.length; c++) {
            due("lay(" + k + ", " + c + ", " + cells[c] + ")", x.lay(k, c, cells[c]), 1);
        }
    }

    private static void reading() {
        promise = "promise 39";
        TemperIsles x = told("plain 10;plain 20;plain 30;");
        x.sheet(0, 0, 8);
        lay(x, 0, 0, 1, 3, 1, 0, 2, 2, 1);
        due("read(0, 0, 0, 3)", x.read(0, 0, 0, 3), 2);
        due("torn()", x.torn(), 2);
        due("cross(0, 1)", x.cross(0, 1), 3);
        due("cross(1, 0)", x.cross(1, 0), 2);
        due("read(0, 0, 0, 2)", x.read(0, 0, 0, 2), 2);
        due("torn()", x.torn(), 0);
        due("read(0, 0, -1, 2)", x.read(0, 0, -1, 2), 0);
        due("torn()", x.torn(), 2);
        due("read(0, 1, 0, 2)", x.read(0, 1, 0, 2), 0);
        due("torn()", x.torn(), 3);
        due("read(0, 2, 99, 2)", x.read(0, 2, 99, 2), 0);
        due("torn()", x.torn(), 3);
        due("read(1, 2, -5, 2)", x.read(1, 2, -5, 2), 0);
        due("torn()", x.torn(), 1);
        due("read(0, 0, MOST, 13)", x.read(0, 0, MOST, 13), 0);
        due("torn()", x.torn(), 2);
        due("read(0, 0, LEAST, 13)", x.read(0, 0, LEAST, 13), 0);
        due("read(0, 0, 0, 0)", x.read(0, 0, 0, 0), 0);
        due("torn()", x.torn(), 0);
        due("read(0, 1, 0, 0)", x.read(0, 1, 0, 0), 0);
        due("torn()", x.torn(), 0);
        due("read(1, 0, 0, 0)", x.read(1, 0, 0, 0), 0);
        due("torn()", x.torn(), 0);
        due("read(0, 0, 8, 1)", x.read(0, 0, 8, 1), 0);
        due("torn()", x.torn(), 2);

        // From the second cell on: 1 3 1 (no isle 3).
        due("read(0, 0, 1, 2)", x.read(0, 0, 1, 2), -20);
        promise = "promise 40";
        due("torn() behind what is refused", x.torn(), 2);
        due("read(4, 0, 0, 0)", x.read(4, 0, 0, 0), BAD);
        due("read(-1, 0, 0, 0)", x.read(-1, 0, 0, 0), BAD);
        due("read(0, 3, 0, 0)", x.read(0, 3, 0, 0), BAD);
        due("read(0, -1, 0, 0)", x.read(0, -1, 0, 0), BAD);
        due("read(0, 0, 0, 14)", x.read(0, 0, 0, 14), BAD);
        due("read(0, 0, 0, -1)", x.read(0, 0, 0, -1), BAD);
        due("torn()", x.torn(), 2);
        promise = "promise 39";
        x.sulk(0, 1, 0);
        x.sulk(1, 0, 0);
        lay(x, 0, 0, 1, 3, 1, 1, 2, 2, 1);
        due("read(0, 0, 0, 3)", x.read(0, 0, 0, 3), -21);
        due("cross(0, 1)", x.cross(0, 1), 0);
        lay(x, 0, 0, 1, 3, 1, 0, 4);
        due("read(0, 0, 0, 2)", x.read(0, 0, 0, 2), -21);
        lay(x, 0, -1, 1, 3);
        due("read(0, 0, 0, 13)", x.read(0, 0, 0, 13), -20);
        due("cross(0, 1)", x.cross(0, 1), 0);
        // The same two twice: the latter stays.
        lay(x, 0, 0, 1, 3, 0, 1, 1);
        due("read(0, 0, 0, 2)", x.read(0, 0, 0, 2), 2);
        due("cross(0, 1)", x.cross(0, 1), 1);
        x.sheet(2, 2, 39);
        for (int t = 0; t < 13; t++) {
            x.lay(2, 3 * t, 2);
            x.lay(2, 3 * t + 2, t % 4);
        }
        due("read(2, 2, 0, 13)", x.read(2, 2, 0, 13), 13);
        due("cross(2, 0)", x.cross(2, 0), 0);
        due("read(2, 2, 3, 13)", x.read(2, 2, 3, 13), 12);
        due("torn()", x.torn(), 2);
        due("read(2, 2, 33, 1)", x.read(2, 2, 33, 1), 1);
        due("cross(2, 0)", x.cross(2, 0), 3);
    }

    private static void counts() {
        promise = "promise 41";
        TemperIsles x = busy();
        int[] want = {1, 1, 8, 7, 6, 6};
        for (int w = 0; w < 6; w++) {
            due("count(" + w + ")", x.count(w), want[w]);
        }
        due("count(-1)", x.count(-1), BAD);
        due("count(6)", x.count(6), BAD);
        due("count(LEAST)", x.count(LEAST), BAD);
        x.wed(1, 2, 30);
        due("count(4)", x.count(4), 36);
        x.loose(0);
        due("count(4)", x.count(4), 0);
        x.sulk(0, 2, 3);
        due("count(5)", x.count(5), 9);
        x.keep(0);
        due("count(1)", x.count(1), 2);
        due("count(3)", new TemperIsles().count(3), NONE);
    }

    // ---------------------------------------------------------------- what is refused changes nothing

    private static void refusals() {
        promise = "what is refused";
        refused("feed(200)", BAD, x -> x.feed(200));
        refused("end(9)", BAD, x -> x.end(9));
        refused("alter(0, 1, 39)", BAD, x -> x.alter(0, 1, 39));
        refused("alter(0, 0, 4)", BAD, x -> x.alter(0, 0, 4));
        refused("sulk(0, 0, 1)", BAD, x -> x.sulk(0, 0, 1));
        refused("sulk(0, 1, 4)", BAD, x -> x.sulk(0, 1, 4));
        refused("haul(0, 31)", BAD, x -> x.haul(0, 31));
        refused("wed(0, 1, 31)", BAD, x -> x.wed(0, 1, 31));
        refused("loose(2)", BAD, x -> x.loose(2));
        refused("feast(7)", BAD, x -> x.feast(7));
        refused("days(31)", BAD, x -> x.days(31));
        refused("see(0, 3, 0)", BAD, x -> x.see(0, 3, 0));
        refused("forget(2)", BAD, x -> x.forget(2));
        refused("keep(2)", BAD, x -> x.keep(2));
        refused("back(0)", STATE, x -> x.back(0));
        refused("sheet(0, 0, -1)", -14, x -> x.sheet(0, 0, -1));
        refused("sheet(0, 0, 41)", BAD, x -> x.sheet(0, 0, 41));
        refused("lay(0, 7, 1)", -12, x -> x.lay(0, 7, 1));
        refused("read(0, 0, 0, 2)", -21, x -> x.read(0, 0, 0, 2));
        refused("read(0, 0, 0, 14)", BAD, x -> x.read(0, 0, 0, 14));

        promise = "what is only asked";
        unchanged("runs", x -> x.runs(60, 0));
        unchanged("ahead", x -> x.ahead(0, 60));
        unchanged("within", x -> x.within(0));
        unchanged("match", x -> x.match(9, 0));
        unchanged("fray", x -> x.fray(0));
        unchanged("soothe", x -> x.soothe(0));
        unchanged("holy", x -> x.holy(60, 0));
        unchanged("kind", x -> x.kind(0, 60, 0));
        unchanged("slack", x -> x.slack(0, 60, 5));
        unchanged("luck", x -> x.luck(5, 8, 5, 0));
        unchanged("mean", x -> x.mean(5, 8, 0));
        unchanged("kinds", x -> x.kinds(0));
        unchanged("sulks", x -> x.sulks(0, 1));
        unchanged("ask", x -> x.ask(0, 0));
        unchanged("drift", x -> x.drift(5, 60, 0));
    }

    public static void main(String[] args) {
        newObject();
        tape();
        textTaken();
        textFaults();
        asked();
        changed();
        daysDrift();
        daysFeast();
        byDays();
        advice();
        choices();
        storms();
        seen();
        asking();
        seeds();
        images();
        sheets();
        reading();
        counts();
        refusals();
        System.out.println(checks + " answers looked at, " + wrong + " wrong");
        if (wrong != 0) {
            System.exit(1);
        }
    }
}
