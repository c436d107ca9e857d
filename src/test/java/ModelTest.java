import java.lang.reflect.InvocationTargetException;
import java.lang.reflect.Method;
import java.util.ArrayList;
import java.util.Arrays;
import java.util.HashSet;
import java.util.List;
import java.util.Random;
import java.util.Set;

/**
 * Runs of calls drawn at random, on the class and on a second, plainer telling of the document: both must answer alike.
 * The model is free to use the library, lets the machine itself find the faults of the sheets, and copies all it tries.
 */
public final class ModelTest {
    private static final int RUNS = 1500;
    private static final int CALLS = 512;

    public static void main(String[] args) throws Exception {
        int runs = args.length > 0 ? Integer.parseInt(args[0]) : RUNS;
        long first = args.length > 1 ? Long.parseLong(args[1]) : 1;
        Set<String> reached = new HashSet<>();
        int wrong = 0;
        for (int r = 0; r < runs && wrong < 10; r++) {
            wrong += oneRun(first + r, reached);
        }
        System.out.println(runs + " runs, " + wrong + " of them wrong");
        wrong += missing(reached);
        if (wrong != 0) {
            System.exit(1);
        }
    }

    /** What the runs must have met, or they have shown too little. */
    private static int missing(Set<String> reached) {
        int lacking = 0;
        List<String> all = new ArrayList<>();
        for (Method m : Face.class.getMethods()) {
            all.add(m.getName() + " taken");
            if (m.getParameterCount() > 0) {
                all.add(m.getName() + " -1");
            }
        }
        for (String s : "feed -3,wed -3,days -3,match -3,see -3,isle -4,within -4,match -4,fray -4,soothe -4,slack -4,ask -4,count -4,drift -2,back -2,sheet -14,lay -11,lay -12,read -20,read -21,torn 1,torn 2,torn 3,fault 1,fault 2,fault 3,fault 4,fault 5,fault 6".split(",")) {
            all.add(s);
        }
        for (String s : all) {
            if (!reached.contains(s)) {
                lacking++;
                System.out.println("never met: " + s);
            }
        }
        return lacking;
    }

    private static int oneRun(long seed, Set<String> reached) throws Exception {
        Random random = new Random(seed);
        TemperIsles real = new TemperIsles();
        Model model = new Model();
        Caller caller = new Caller(random, model);
        List<String> told = new ArrayList<>();
        for (int c = 0; c < CALLS; c++) {
            Call call = caller.next();
            long due = call.on(model, Model.class);
            Object got;
            try {
                got = call.on(real, TemperIsles.class);
            } catch (InvocationTargetException e) {
                got = e.getCause();
            }
            told.add(call + " = " + got);
            reached.add(call.name + " " + due);
            if (due >= 0) {
                reached.add(call.name + " taken");
            }
            if (!got.equals(due)) {
                System.out.println("seed " + seed + ", call " + c + ": " + call + " answered " + got + ", due is " + due);
                int from = Math.max(0, told.size() - 60);
                System.out.println("  " + String.join("; ", told.subList(from, told.size())));
                return 1;
            }
        }
        return 0;
    }

    // ---------------------------------------------------------------- calls

    private static final class Call {
        final String name;
        final int[] args;

        Call(String name, int... args) {
            this.name = name;
            this.args = args;
        }

        long on(Object target, Class<?> type) throws Exception {
            for (Method m : type.getDeclaredMethods()) {
                if (m.getName().equals(name) && m.getParameterCount() == args.length && java.lang.reflect.Modifier.isPublic(m.getModifiers())) {
                    Object[] boxed = new Object[args.length];
                    for (int i = 0; i < args.length; i++) {
                        boxed[i] = args[i];
                    }
                    return ((Number) m.invoke(target, boxed)).longValue();
                }
            }
            throw new IllegalStateException(name);
        }

        @Override
        public String toString() {
            return name + Arrays.toString(args);
        }
    }

    private static final class Caller {
        private static final String[] NAMES = {"end", "text", "fault", "rule", "isle", "cross", "rope", "far", "alter", "sulk", "haul", "wed", "loose", "feast", "days", "runs", "ahead", "within", "match", "fray", "soothe", "holy", "kind", "slack", "luck", "mean", "see", "forget", "kinds", "sulks", "ask", "drift", "keep", "back", "sheet", "lay", "read", "torn", "count"};
        private static final int[] EDGES = {Integer.MIN_VALUE, Integer.MAX_VALUE, -1, -2, 1000, 100, 61, 31, 41, 128, 1 << 16, -(1 << 20)};
        private final Random random;
        private final Model model;
        private final List<Call> waiting = new ArrayList<>();
        private final boolean hasty;
        private final boolean wild;

        Caller(Random random, Model model) {
            this.random = random;
            this.model = model;
            this.hasty = random.nextInt(10) == 0;
            this.wild = random.nextInt(20) == 0;
            feedText();
        }

        Call next() {
            if (!waiting.isEmpty()) {
                return waiting.remove(0);
            }
            int dice = random.nextInt(1000);
            if (dice < 6) {
                feedText();
                return next();
            }
            if (dice < 12) {
                return new Call("feed", random.nextInt(4) == 0 ? edge() : random.nextInt(128));
            }
            if (dice < 100) {
                sheetTold();
                return next();
            }
            if (dice < 160) {
                return seenTruly();
            }
            if (hasty && dice < 400) {
                return new Call("days", 30);
            }
            return drawn(NAMES[random.nextInt(NAMES.length)]);
        }

        private int edge() {
            return EDGES[random.nextInt(EDGES.length)];
        }

        private int upTo(int most) {
            int dice = random.nextInt(wild ? 6 : 60);
            return dice == 0 ? edge() : dice == 1 ? most + 1 : dice == 2 ? -1 : random.nextInt(Math.max(0, most) + 1);
        }

        private int isle() {
            return upTo(model.isles.size() - 1);
        }

        private int rope() {
            return upTo(model.ropes.size() - 1);
        }

        private Call drawn(String name) {
            switch (name) {
                case "end": return new Call(name, upTo(model.tape.length()));
                case "text": return random.nextInt(60) == 0 ? new Call(name) : new Call("fault");
                case "fault": case "torn": return new Call(name);
                case "rule": return new Call(name, upTo(5));
                case "isle": return new Call(name, isle(), upTo(5));
                case "cross": case "far": case "sulks": return new Call(name, isle(), isle());
                case "rope": return new Call(name, rope(), upTo(2));
                case "alter": return random.nextBoolean() ? new Call(name, isle(), upTo(2), upTo(3)) : new Call(name, isle(), 1, upTo(99));
                case "sulk": return new Call(name, isle(), isle(), upTo(3));
                case "haul": return new Call(name, rope(), upTo(30));
                case "wed": return new Call(name, isle(), isle(), upTo(30));
                case "loose": return random.nextInt(4) == 0 ? new Call(name, upTo(model.ropes.size())) : drawn("wed");
                case "feast": return new Call(name, upTo(6));
                case "days": return new Call(name, random.nextBoolean() ? upTo(3) : upTo(30));
                case "runs": return new Call(name, upTo(60), upTo(3));
                case "ahead": return new Call(name, isle(), upTo(60));
                case "within": return new Call(name, random.nextBoolean() ? upTo(99) : Math.max(0, model.spread() - random.nextInt(8)));
                case "match": return new Call(name, upTo(30), upTo(1));
                case "fray": case "soothe": return new Call(name, upTo(1));
                case "holy": return new Call(name, upTo(60), upTo(1));
                case "kind": return new Call(name, isle(), upTo(60), upTo(1));
                case "slack": return new Call(name, rope(), upTo(60), upTo(99));
                case "luck": return new Call(name, upTo(10), upTo(random.nextInt(4) == 0 ? 8 : 3), random.nextBoolean() ? upTo(99) : Math.min(99, model.spread() + random.nextInt(5)), upTo(1));
                case "mean": return new Call(name, upTo(10), upTo(random.nextInt(4) == 0 ? 8 : 3), upTo(1));
                case "see": return new Call(name, upTo(20), isle(), upTo(99));
                case "forget": return new Call(name, upTo(model.seen.size()));
                case "kinds": return new Call(name, isle());
                case "ask": return new Call(name, isle(), upTo(1));
                case "drift": return new Call(name, random.nextInt(), upTo(60), upTo(1));
                case "keep": case "back": return new Call(name, upTo(1));
                case "sheet": return new Call(name, upTo(3), upTo(2), upTo(40));
                case "lay": return new Call(name, upTo(3), upTo(40), random.nextBoolean() ? upTo(4) : random.nextInt());
                case "read": return new Call(name, upTo(3), upTo(2), upTo(39), upTo(13));
                default: return new Call("count", upTo(5));
            }
        }

        /** A sighting that some kind would bear out, so that not all kinds are ruled out at once. */
        private Call seenTruly() {
            if (model.isles.isEmpty()) {
                return new Call("see", 0, 0, 0);
            }
            Model then = new Model(model);
            if (random.nextBoolean()) {
                then.isles.get(random.nextInt(then.isles.size()))[0] = random.nextInt(4);
            }
            int n = random.nextInt(21);
            then.pass(n);
            int i = random.nextInt(then.isles.size());
            return new Call("see", n, i, then.isles.get(i)[1]);
        }

        private void sheetTold() {
            int k = random.nextInt(4);
            int lane = random.nextInt(3);
            int lines = random.nextInt(4);
            waiting.add(new Call("sheet", k, lane, 3 * lines + random.nextInt(3)));
            int many = Math.max(1, model.isles.size());
            for (int c = 0; c < lines; c++) {
                int who = random.nextInt(many);
                int whom = random.nextInt(12) == 0 ? who : (who + 1 + random.nextInt(Math.max(1, many - 1))) % many;
                waiting.add(new Call("lay", k, 3 * c, who));
                waiting.add(new Call("lay", k, 3 * c + 1, whom + (lane == 0 ? 256 : lane == 1 ? 1 << 16 : 0)));
                waiting.add(new Call("lay", k, 3 * c + 2, random.nextInt(12) == 0 ? 4 : random.nextInt(4)));
            }
            waiting.add(new Call("read", k, random.nextInt(5) == 0 ? random.nextInt(3) : lane, random.nextInt(5) == 0 ? random.nextInt(3) - 1 : 0, lines + random.nextInt(2)));
            waiting.add(new Call("torn"));
        }

        private void feedText() {
            waiting.add(new Call("end", 0));
            StringBuilder text = new StringBuilder(random.nextInt(30) == 0 ? "" : goodText());
            if (random.nextInt(4) == 0) {
                spoil(text);
            }
            for (int c = 0; c < text.length(); c++) {
                waiting.add(new Call("feed", text.charAt(c)));
            }
            waiting.add(new Call("text"));
            waiting.add(new Call("fault"));
        }

        private String goodText() {
            StringBuilder text = new StringBuilder();
            int many = random.nextInt(8) == 0 ? random.nextInt(3) : 3 + random.nextInt(3);
            int at = random.nextInt(40);
            for (int i = 0; i < many; i++) {
                text.append(new String[] {"plain", "proud", "fond", "widow"}[random.nextInt(4)]).append(blank()).append(at).append(";");
                at = Math.min(99, at + 1 + random.nextInt(12));
            }
            Set<Integer> told = new HashSet<>();
            for (int c = random.nextInt(10); c > 0 && many > 1; c--) {
                int who = random.nextInt(many);
                int whom = otherThan(who, many);
                if (told.add(10 * who + whom)) {
                    text.append("cross").append(blank()).append(who).append(" ").append(whom).append(" ").append(random.nextInt(4)).append(";");
                }
            }
            for (int c = random.nextInt(4); c > 0 && many > 1; c--) {
                int who = random.nextInt(many);
                text.append("rope ").append(who).append(" ").append(otherThan(who, many)).append("  ").append(1 + random.nextInt(30)).append(" ;");
            }
            if (random.nextBoolean()) {
                text.append("feast ").append(random.nextInt(7)).append(";");
            }
            return text.length() > 160 ? text.substring(0, text.lastIndexOf(";", 159) + 1) : text.toString();
        }

        private int otherThan(int who, int many) {
            return (who + 1 + random.nextInt(many - 1)) % many;
        }

        private String blank() {
            return random.nextInt(4) == 0 ? "" : " ";
        }

        private void spoil(StringBuilder text) {
            String[] bits = {"feast 3;", "plain 9;", "fond 100;", "rope 0 4 7;", "cross 0 4 1;", "cross 4 4 1;", "rope 0 1 31;", "rope 0 1 0;", "feast 7;", "A", ";", "plains", " ", "12", "rope 0 1 3;rope 0 1 3;rope 0 1 3;rope 0 1 3;", "plain 97;plain 98;plain 99;plain 96;", "~", "5", "cross 0 1 3;cross 0 1 3;", "widow"};
            for (int c = 1 + random.nextInt(2); c > 0; c--) {
                int where = text.length() == 0 ? 0 : random.nextInt(text.length() + 1);
                if (random.nextInt(3) == 0) {
                    int line = text.indexOf(";", where);
                    where = line < 0 ? text.length() : line + 1;
                }
                if (random.nextInt(4) == 0) {
                    text.setLength(where);
                } else {
                    text.insert(where, bits[random.nextInt(bits.length)]);
                }
            }
        }
    }

    // ---------------------------------------------------------------- the model

    /** The face, so that the test can tell which calls it has met. */
    public interface Face {
        int feed(int c);
        int end(int n);
        int text();
        int fault();
        int rule(int what);
        int isle(int i, int what);
        int cross(int i, int j);
        int rope(int k, int what);
        int far(int i, int j);
        int alter(int i, int what, int v);
        int sulk(int i, int j, int v);
        int haul(int k, int v);
        int wed(int i, int j, int length);
        int loose(int n);
        int feast(int v);
        int days(int n);
        int runs(int n, int what);
        int ahead(int i, int n);
        int within(int v);
        int match(int length, int what);
        int fray(int what);
        int soothe(int what);
        int holy(int n, int what);
        int kind(int i, int n, int what);
        int slack(int k, int n, int v);
        long luck(int v, int n, int w, int what);
        long mean(int v, int n, int what);
        int see(int n, int i, int v);
        int forget(int n);
        int kinds(int i);
        int sulks(int i, int j);
        int ask(int i, int what);
        int drift(int seed, int n, int what);
        int keep(int k);
        int back(int k);
        int sheet(int k, int lane, int n);
        int lay(int k, int i, int v);
        int read(int k, int lane, int f, int n);
        int torn();
        int count(int what);
    }

    private static final class TextFault extends Exception {
        private static final long serialVersionUID = 1L;
        final int kind;
        final int place;

        TextFault(int kind, int place) {
            this.kind = kind;
            this.place = place;
        }
    }

    public static final class Model implements Face {
        static final int BAD = -1, STATE = -2, FULL = -3, NONE = -4;
        List<int[]> isles = new ArrayList<>();
        int[][] crossness = new int[5][5];
        List<int[]> ropes = new ArrayList<>();
        int feastDay, day, bumps;
        List<int[]> seen = new ArrayList<>();
        String tape = "";
        int latestFault, latestTorn;
        Object[] sheets = new Object[4];
        Model[] images = new Model[2];

        public Model() {
        }

        /** What an image has. */
        Model(Model from) {
            take(from);
        }

        private void take(Model from) {
            isles = copy(from.isles);
            for (int i = 0; i < 5; i++) {
                crossness[i] = from.crossness[i].clone();
            }
            ropes = copy(from.ropes);
            seen = copy(from.seen);
            feastDay = from.feastDay;
            day = from.day;
            bumps = from.bumps;
        }

        private static List<int[]> copy(List<int[]> rows) {
            List<int[]> all = new ArrayList<>();
            for (int[] row : rows) {
                all.add(row.clone());
            }
            return all;
        }

        private boolean noIsle(int i) {
            return i < 0 || i >= isles.size();
        }

        private boolean noPair(int i, int j) {
            return noIsle(i) || noIsle(j) || i == j;
        }

        private boolean noRope(int k) {
            return k < 0 || k >= ropes.size();
        }

        private static boolean out(int v, int least, int most) {
            return v < least || v > most;
        }

        int spread() {
            int most = 0;
            for (int[] a : isles) {
                for (int[] b : isles) {
                    most = Math.max(most, Math.abs(a[1] - b[1]));
                }
            }
            return most;
        }

        private int drifting(int i) {
            int up = 0;
            int down = 0;
            for (int j = 0; j < isles.size(); j++) {
                if (j == i) {
                    continue;
                }
                if (isles.get(i)[1] > isles.get(j)[1]) {
                    up += crossness[i][j];
                } else {
                    down += crossness[i][j];
                }
            }
            int size = Math.abs(up - down);
            int kind = isles.get(i)[0];
            int far = kind == 0 ? size : kind == 1 ? size * 2 : kind == 2 ? size >> 1 : Math.max(0, size * 2 - 1);
            return up > down ? far : -far;
        }

        private int nearest(int i) {
            for (int apart = 1; apart < 100; apart++) {
                for (int j = 0; j < isles.size(); j++) {
                    if (j != i && Math.abs(isles.get(i)[1] - isles.get(j)[1]) == apart) {
                        return j;
                    }
                }
            }
            return NONE;
        }

        private boolean hindered(int i, int to) {
            for (int[] r : ropes) {
                if (r[0] != i && r[1] != i) {
                    continue;
                }
                int there = isles.get(r[0] + r[1] - i)[1];
                int is = Math.abs(isles.get(i)[1] - there);
                int would = Math.abs(to - there);
                if (would > Math.max(is, r[2])) {
                    return true;
                }
            }
            return false;
        }

        private boolean occupied(int to) {
            return isles.stream().anyMatch(x -> x[1] == to);
        }

        void pass(int n) {
            for (int d = 0; d < n; d++) {
                for (int i = 0; i < isles.size(); i++) {
                    if (day % 7 == feastDay) {
                        int j = nearest(i);
                        if (j != NONE) {
                            int way = isles.get(j)[1] > isles.get(i)[1] ? 1 : -1;
                            int to = isles.get(i)[1] + way;
                            if (!occupied(to) && !hindered(i, to)) {
                                isles.get(i)[1] = to;
                            }
                        }
                        continue;
                    }
                    int left = drifting(i);
                    while (left != 0) {
                        int way = left > 0 ? 1 : -1;
                        int to = isles.get(i)[1] + way;
                        if (to < 0 || to > 99 || hindered(i, to)) {
                            break;
                        }
                        if (occupied(to)) {
                            bumps++;
                            break;
                        }
                        isles.get(i)[1] = to;
                        left -= way;
                    }
                }
                day++;
            }
        }

        private Model then(int n) {
            Model m = new Model(this);
            m.pass(n);
            return m;
        }

        public int feed(int c) {
            if (out(c, 0, 127)) {
                return BAD;
            }
            if (tape.length() == 160) {
                return FULL;
            }
            tape += (char) c;
            return tape.length();
        }

        public int end(int n) {
            if (out(n, 0, tape.length())) {
                return BAD;
            }
            int had = tape.length();
            tape = tape.substring(0, n);
            return had;
        }

        private int at;
        private int tokenAt;

        private String token() throws TextFault {
            while (at < tape.length() && tape.charAt(at) == ' ') {
                at++;
            }
            tokenAt = at;
            if (at == tape.length()) {
                return "";
            }
            java.util.regex.Matcher m = java.util.regex.Pattern.compile("[a-z]+|[0-9]+|;").matcher(tape).region(at, tape.length());
            if (!m.lookingAt()) {
                throw new TextFault(1, at);
            }
            String t = m.group();
            if (t.matches("[0-9]{3,}")) {
                throw new TextFault(1, at);
            }
            at = m.end();
            return t;
        }

        private int number(int least, int most) throws TextFault {
            String t = token();
            if (!t.matches("[0-9]+")) {
                throw new TextFault(2, tokenAt);
            }
            int v = Integer.parseInt(t);
            if (out(v, least, most)) {
                throw new TextFault(3, tokenAt);
            }
            return v;
        }

        private Model parse(int[] lines) throws TextFault {
            Model m = new Model();
            Set<String> told = new HashSet<>();
            int highest = -1;
            at = 0;
            while (true) {
                String name = token();
                if (name.isEmpty()) {
                    break;
                }
                int kind = List.of("plain", "proud", "fond", "widow", "cross", "rope", "feast").indexOf(name);
                if (kind < 0) {
                    throw new TextFault(2, tokenAt);
                }
                if (kind < 4 && m.isles.size() == 5 || kind == 5 && m.ropes.size() == 6) {
                    throw new TextFault(5, tokenAt);
                }
                if (kind == 6 && !told.add("feast")) {
                    throw new TextFault(4, tokenAt);
                }
                if (kind < 4) {
                    int v = number(0, 99);
                    if (m.occupied(v)) {
                        throw new TextFault(4, tokenAt);
                    }
                    m.isles.add(new int[] {kind, v});
                } else if (kind == 6) {
                    m.feastDay = number(0, 6);
                } else {
                    int a = number(0, 4);
                    int b = number(0, 4);
                    if (a == b) {
                        throw new TextFault(3, tokenAt);
                    }
                    highest = Math.max(highest, Math.max(a, b));
                    if (kind == 4) {
                        if (!told.add(a + ">" + b)) {
                            throw new TextFault(4, tokenAt);
                        }
                        m.crossness[a][b] = number(0, 3);
                    } else {
                        m.ropes.add(new int[] {a, b, number(1, 30)});
                    }
                }
                if (!token().equals(";")) {
                    throw new TextFault(2, tokenAt);
                }
                lines[0]++;
            }
            if (highest >= m.isles.size()) {
                throw new TextFault(6, tape.length());
            }
            return m;
        }

        public int text() {
            int[] lines = {0};
            try {
                take(parse(lines));
                images = new Model[2];
                latestFault = 0;
                return lines[0];
            } catch (TextFault f) {
                latestFault = f.kind;
                return -10 - f.place;
            } finally {
                tape = "";
            }
        }

        public int fault() {
            return latestFault;
        }

        public int rule(int what) {
            return out(what, 0, 5) ? BAD : new int[] {isles.size(), ropes.size(), day, feastDay, bumps, spread()}[what];
        }

        public int isle(int i, int what) {
            if (noIsle(i) || out(what, 0, 5)) {
                return BAD;
            }
            int had = (int) ropes.stream().filter(r -> r[0] == i || r[1] == i).count();
            int d = drifting(i);
            return new int[] {isles.get(i)[0], isles.get(i)[1], had, Math.abs(d), d > 0 ? 1 : 0, nearest(i)}[what];
        }

        public int cross(int i, int j) {
            return noPair(i, j) ? BAD : crossness[i][j];
        }

        public int rope(int k, int what) {
            return noRope(k) || out(what, 0, 2) ? BAD : ropes.get(k)[what];
        }

        public int far(int i, int j) {
            return noPair(i, j) ? BAD : Math.abs(isles.get(i)[1] - isles.get(j)[1]);
        }

        public int alter(int i, int what, int v) {
            if (noIsle(i) || out(what, 0, 1) || out(v, 0, what == 0 ? 3 : 99) || what == 1 && v != isles.get(i)[1] && occupied(v)) {
                return BAD;
            }
            int was = isles.get(i)[what];
            isles.get(i)[what] = v;
            return was;
        }

        public int sulk(int i, int j, int v) {
            if (noPair(i, j) || out(v, 0, 3)) {
                return BAD;
            }
            int was = crossness[i][j];
            crossness[i][j] = v;
            return was;
        }

        public int haul(int k, int v) {
            if (noRope(k) || out(v, 1, 30)) {
                return BAD;
            }
            int was = ropes.get(k)[2];
            ropes.get(k)[2] = v;
            return was;
        }

        public int wed(int i, int j, int length) {
            if (noPair(i, j) || out(length, 1, 30)) {
                return BAD;
            }
            if (ropes.size() == 6) {
                return FULL;
            }
            ropes.add(new int[] {i, j, length});
            return ropes.size();
        }

        public int loose(int n) {
            if (out(n, 0, ropes.size())) {
                return BAD;
            }
            int had = ropes.size();
            ropes.subList(n, had).clear();
            return had;
        }

        public int feast(int v) {
            if (out(v, 0, 6)) {
                return BAD;
            }
            int was = feastDay;
            feastDay = v;
            return was;
        }

        public int days(int n) {
            if (out(n, 0, 30)) {
                return BAD;
            }
            if (day + n > 999) {
                return FULL;
            }
            int had = bumps;
            pass(n);
            return bumps - had;
        }

        public int runs(int n, int what) {
            if (out(n, 0, 60) || out(what, 0, 3)) {
                return BAD;
            }
            Model m = then(n);
            if (what == 0) {
                return m.spread();
            }
            if (what == 1) {
                return m.bumps - bumps;
            }
            int least = 99;
            int moved = 0;
            Model step = new Model(this);
            for (int d = 0; d <= n; d++) {
                least = Math.min(least, step.spread());
                step.pass(1);
            }
            for (int i = 0; i < isles.size(); i++) {
                moved += isles.get(i)[1] == m.isles.get(i)[1] ? 0 : 1;
            }
            return what == 2 ? least : moved;
        }

        public int ahead(int i, int n) {
            return noIsle(i) || out(n, 0, 60) ? BAD : then(n).isles.get(i)[1];
        }

        public int within(int v) {
            if (out(v, 0, 99)) {
                return BAD;
            }
            Model step = new Model(this);
            for (int n = 0; n <= 60; n++) {
                if (step.spread() <= v) {
                    return n;
                }
                step.pass(1);
            }
            return NONE;
        }

        /** The first row {name, worth} of the least worth; if it must be less than a bound, none else. */
        private static int least(List<int[]> rows, int bound, int what) {
            int[] best = null;
            for (int[] r : rows) {
                if (r[1] < bound && (best == null || r[1] < best[1] || r[1] == best[1] && r[0] < best[0])) {
                    best = r;
                }
            }
            return best == null ? NONE : best[what];
        }

        public int match(int length, int what) {
            if (out(length, 1, 30) || out(what, 0, 1)) {
                return BAD;
            }
            if (ropes.size() == 6) {
                return FULL;
            }
            List<int[]> rows = new ArrayList<>();
            for (int j = 0; j < isles.size(); j++) {
                for (int i = 0; i < j; i++) {
                    Model m = new Model(this);
                    m.wed(j, i, length);
                    m.pass(30);
                    rows.add(new int[] {10 * i + j, m.spread()});
                }
            }
            return least(rows, then(30).spread(), what);
        }

        public int fray(int what) {
            if (out(what, 0, 1)) {
                return BAD;
            }
            List<int[]> rows = new ArrayList<>();
            for (int k = 0; k < ropes.size(); k++) {
                Model m = new Model(this);
                m.ropes.remove(k);
                m.pass(30);
                rows.add(new int[] {k, m.bumps - bumps});
            }
            return least(rows, then(30).bumps - bumps, what);
        }

        public int soothe(int what) {
            if (out(what, 0, 1)) {
                return BAD;
            }
            List<int[]> rows = new ArrayList<>();
            for (int i = 0; i < isles.size(); i++) {
                for (int j = 0; j < isles.size(); j++) {
                    Model m = new Model(this);
                    if (m.sulk(i, j, 0) >= 0) {
                        m.pass(30);
                        rows.add(new int[] {10 * i + j, m.spread()});
                    }
                }
            }
            return least(rows, then(30).spread(), what);
        }

        public int holy(int n, int what) {
            if (out(n, 0, 60) || out(what, 0, 1)) {
                return BAD;
            }
            List<int[]> rows = new ArrayList<>();
            for (int v = 0; v < 7; v++) {
                Model m = new Model(this);
                m.feast(v);
                m.pass(n);
                rows.add(new int[] {v, m.spread()});
            }
            return least(rows, 1000, what);
        }

        public int kind(int i, int n, int what) {
            if (noIsle(i) || out(n, 0, 60) || out(what, 0, 1)) {
                return BAD;
            }
            List<int[]> rows = new ArrayList<>();
            for (int v = 0; v < 4; v++) {
                Model m = new Model(this);
                m.alter(i, 0, v);
                m.pass(n);
                rows.add(new int[] {v, m.spread()});
            }
            return least(rows, 1000, what);
        }

        public int slack(int k, int n, int v) {
            if (noRope(k) || out(n, 0, 60) || out(v, 0, 99)) {
                return BAD;
            }
            int greatest = NONE;
            for (int length = 1; length <= 30; length++) {
                Model m = new Model(this);
                m.haul(k, length);
                m.pass(n);
                greatest = m.spread() <= v ? length : greatest;
            }
            return greatest;
        }

        private long storms(int v, int n, int w, int what) {
            long sum = 0;
            long whole = 1;
            for (int d = 0; d < n; d++) {
                whole *= 10;
            }
            for (int mask = 0; mask < 1 << n; mask++) {
                Model m = new Model(this);
                long weight = 1;
                for (int d = 0; d < n; d++) {
                    if ((mask >> d & 1) == 1) {
                        m.day++;
                        weight *= v;
                    } else {
                        m.pass(1);
                        weight *= 10 - v;
                    }
                }
                sum += weight * (w < 0 ? m.spread() : m.spread() <= w ? 1 : 0);
            }
            long g = java.math.BigInteger.valueOf(sum).gcd(java.math.BigInteger.valueOf(whole)).longValue();
            return (what == 0 ? sum : whole) / g;
        }

        public long luck(int v, int n, int w, int what) {
            return out(v, 0, 10) || out(n, 0, 8) || out(w, 0, 99) || out(what, 0, 1) ? BAD : storms(v, n, w, what);
        }

        public long mean(int v, int n, int what) {
            return out(v, 0, 10) || out(n, 0, 8) || out(what, 0, 1) ? BAD : storms(v, n, -1, what);
        }

        public int see(int n, int i, int v) {
            if (out(n, 0, 20) || noIsle(i) || out(v, 0, 99)) {
                return BAD;
            }
            if (seen.size() == 6) {
                return FULL;
            }
            seen.add(new int[] {n, i, v});
            return seen.size();
        }

        public int forget(int n) {
            if (out(n, 0, seen.size())) {
                return BAD;
            }
            int had = seen.size();
            seen.subList(n, had).clear();
            return had;
        }

        private boolean asSeen() {
            for (int[] s : seen) {
                if (then(s[0]).isles.get(s[1])[1] != s[2]) {
                    return false;
                }
            }
            return true;
        }

        public int kinds(int i) {
            if (noIsle(i)) {
                return BAD;
            }
            int bits = 0;
            for (int v = 0; v < 4; v++) {
                Model m = new Model(this);
                m.alter(i, 0, v);
                bits += m.asSeen() ? 1 << v : 0;
            }
            return bits;
        }

        public int sulks(int i, int j) {
            if (noPair(i, j)) {
                return BAD;
            }
            int bits = 0;
            for (int v = 0; v < 4; v++) {
                Model m = new Model(this);
                m.sulk(i, j, v);
                bits += m.asSeen() ? 1 << v : 0;
            }
            return bits;
        }

        public int ask(int i, int what) {
            if (noIsle(i) || out(what, 0, 1)) {
                return BAD;
            }
            int bits = kinds(i);
            List<int[]> rows = new ArrayList<>();
            int[][] where = new int[4][210];
            for (int v = 0; v < 4; v++) {
                Model m = new Model(this);
                m.alter(i, 0, v);
                for (int n = 0; n <= 20; n++) {
                    for (int j = 0; j < isles.size(); j++) {
                        where[v][10 * n + j] = m.isles.get(j)[1];
                    }
                    m.pass(1);
                }
            }
            for (int n = 0; n <= 20; n++) {
                for (int j = 0; j < isles.size(); j++) {
                    int worst = 0;
                    for (int fathom = 0; fathom < 100; fathom++) {
                        int left = 0;
                        for (int v = 0; v < 4; v++) {
                            left += (bits >> v & 1) == 1 && where[v][10 * n + j] == fathom ? 1 : 0;
                        }
                        worst = Math.max(worst, left);
                    }
                    rows.add(new int[] {10 * n + j, worst});
                }
            }
            return least(rows, Integer.bitCount(bits), what);
        }

        public int drift(int seed, int n, int what) {
            if (out(n, 1, 60) || out(what, 0, 1)) {
                return BAD;
            }
            if (isles.isEmpty()) {
                return STATE;
            }
            Model m = new Model(this);
            long s = seed;
            for (int d = 0; d < n; d++) {
                s = (s * 1103515245L + 12345L) & 0xffffffffL;
                int got = (int) (s / 65536 % 32768);
                m.sulk(got % isles.size(), got / 8 % isles.size(), got / 64 % 4);
                m.pass(1);
            }
            return what == 0 ? m.spread() : m.bumps - bumps;
        }

        public int keep(int k) {
            if (out(k, 0, 1)) {
                return BAD;
            }
            int was = images[k] == null ? 0 : 1;
            images[k] = new Model(this);
            return was;
        }

        public int back(int k) {
            if (out(k, 0, 1)) {
                return BAD;
            }
            if (images[k] == null) {
                return STATE;
            }
            take(images[k]);
            return day;
        }

        public int sheet(int k, int lane, int n) {
            if (out(k, 0, 3) || out(lane, 0, 2) || n > 40) {
                return BAD;
            }
            try {
                sheets[k] = lane == 0 ? new byte[n] : lane == 1 ? new short[n] : (Object) new int[n];
                return 1;
            } catch (NegativeArraySizeException e) {
                return -14;
            }
        }

        public int lay(int k, int i, int v) {
            if (out(k, 0, 3)) {
                return BAD;
            }
            try {
                if (sheets[k] instanceof byte[]) {
                    ((byte[]) sheets[k])[i] = (byte) v;
                } else if (sheets[k] instanceof short[]) {
                    ((short[]) sheets[k])[i] = (short) v;
                } else {
                    ((int[]) sheets[k])[i] = v;
                }
                return 1;
            } catch (NullPointerException e) {
                return -11;
            } catch (ArrayIndexOutOfBoundsException e) {
                return -12;
            }
        }

        private int cell(int k, int lane, int i) {
            return lane == 0 ? ((byte[]) sheets[k])[i] : lane == 1 ? ((short[]) sheets[k])[i] : ((int[]) sheets[k])[i];
        }

        public int read(int k, int lane, int f, int n) {
            if (out(k, 0, 3) || out(lane, 0, 2) || out(n, 0, 13)) {
                return BAD;
            }
            Model m = new Model(this);
            int came = 0;
            int found = 0;
            try {
                for (; came < n; came++) {
                    int at = f + 3 * came;
                    if (m.sulk(cell(k, lane, at), cell(k, lane, at + 1), cell(k, lane, at + 2)) < 0) {
                        return -20 - came;
                    }
                }
            } catch (NullPointerException e) {
                found = 1;
            } catch (ArrayIndexOutOfBoundsException e) {
                found = 2;
            } catch (ClassCastException e) {
                found = 3;
            }
            take(m);
            latestTorn = found;
            return came;
        }

        public int torn() {
            return latestTorn;
        }

        public int count(int what) {
            switch (what) {
                case 0: return seen.size();
                case 1: return (images[0] == null ? 0 : 1) + (images[1] == null ? 0 : 1);
                case 2: return tape.length();
                case 3: return sheets[0] == null ? NONE : java.lang.reflect.Array.getLength(sheets[0]);
                case 4: return ropes.stream().mapToInt(r -> r[2]).sum();
                case 5: return Arrays.stream(crossness).flatMapToInt(Arrays::stream).sum();
                default: return BAD;
            }
        }
    }
}
