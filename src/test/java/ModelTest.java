import java.util.ArrayDeque;
import java.util.ArrayList;
import java.util.Arrays;
import java.util.HashMap;
import java.util.List;
import java.util.Map;
import java.util.Random;
import java.util.TreeSet;
import java.util.function.Predicate;

/** Long runs of calls, answered by PinPlan and by a second implementation that only follows the document's words. */
public final class ModelTest {
    private static final int RUNS = 2500;
    private static final int CALLS = 420;
    private static int wrong = 0;

    public static void main(String[] args) {
        int runs = args.length > 0 ? Integer.parseInt(args[0]) : RUNS;
        int seed = args.length > 1 ? Integer.parseInt(args[1]) : 1;
        int good = 0;
        for (int run = 0; run < runs && wrong < 5; run++) {
            good += new Run(new Random(seed * 1000003L + run), run).play();
        }
        System.out.println(runs + " runs, " + good + " plans taken, " + wrong + " runs go wrong");
        if (wrong != 0 || good < runs / 2) {
            System.exit(1);
        }
    }

    /** One object and its model, asked the same. */
    private static final class Run {
        private final Random random;
        private final int number;
        private final PinPlan real = new PinPlan();
        private final Model model = new Model();
        private final List<String> told = new ArrayList<>();
        private int calls = 0;
        private int plansTaken = 0;

        Run(Random random, int number) {
            this.random = random;
            this.number = number;
        }

        int play() {
            boolean same = true;
            if (random.nextInt(10) != 0) {
                same = tellPlan();
            }
            while (same && calls < CALLS) {
                if (random.nextInt(150) == 0) {
                    same = tellPlan();
                } else {
                    same = call(random.nextInt(63));
                }
            }
            if (!same) {
                wrong++;
                System.out.println("run " + number + " goes wrong; it was:");
                for (String line : told) {
                    System.out.println("  " + line);
                }
            }
            return plansTaken;
        }

        private boolean tellPlan() {
            String text = new Texts(random).text();
            told.add("the text: " + text.replace("\n", "\\n"));
            if (!same("end(0)", real.end(0), model.end(0))) {
                return false;
            }
            for (int i = 0; i < text.length(); i += 20) {
                int[] w = Tape.wordsAt(text, i);
                if (!same("feed", real.feed(w[0], w[1], w[2], w[3], w[4]), model.feed(w))) {
                    return false;
                }
            }
            int answer = model.plan(text);
            plansTaken += answer >= 0 ? 1 : 0;
            return same("end", real.end(text.length()), text.length())
                    && same("plan()", real.plan(), answer)
                    && same("fault(0)", real.fault(0), model.faultKind)
                    && same("fault(1)", real.fault(1), model.faultPlace)
                    && same("about(13)", real.about(13), answer >= 0 ? 0 : text.length())
                    && same("about(14)", real.about(14), model.p.units);
        }

        private boolean same(String call, int got, int due) {
            calls++;
            told.add(call + " answered " + got + (got == due ? "" : ", the model says " + due));
            return got == due;
        }

        private boolean same(String call, boolean got, boolean due) {
            return same(call, got ? 1 : 0, due ? 1 : 0);
        }

        private int upTo(int n) {
            int r = random.nextInt(40);
            if (r == 0) {
                return -1;
            }
            if (r == 1) {
                return n;
            }
            if (r == 2) {
                int[] odd = {Integer.MIN_VALUE, Integer.MAX_VALUE, -2, 32, 64, 7776, 1 << 30, -3};
                return odd[random.nextInt(odd.length)];
            }
            return n <= 0 ? 0 : random.nextInt(n);
        }

        private int aKey() {
            return upTo(model.p.keys.size());
        }

        private int aLock() {
            return upTo(model.p.locks.size());
        }

        private int aRoom() {
            return upTo(model.p.rooms.size());
        }

        private int aDoor() {
            return upTo(model.p.doors.size());
        }

        private int aPerson() {
            return upTo(model.p.people.size());
        }

        private int aChamber() {
            return upTo(model.p.chambers);
        }

        private int aBitting() {
            if (random.nextBoolean()) {
                return model.p.legal.get(random.nextInt(model.p.legal.size()));
            }
            return upTo((int) Math.pow(model.p.depths, model.p.chambers));
        }

        private int aTime() {
            return random.nextInt(20) == 0 ? upTo(3) : random.nextInt(model.time + 3);
        }

        private boolean call(int which) {
            int a;
            int b;
            int c;
            switch (which) {
                case 0: a = aKey(); b = upTo(4); return same("key " + a + " " + b, real.key(a, b), model.key(a, b));
                case 1: a = aKey(); b = aChamber(); return same("cut " + a + " " + b, real.cut(a, b), model.cut(a, b));
                case 2: a = aLock(); b = upTo(4); return same("lock " + a + " " + b, real.lock(a, b), model.lock(a, b));
                case 3: a = aLock(); b = aChamber(); return same("parts " + a + " " + b, real.parts(a, b), model.parts(a, b));
                case 4: a = aDoor(); b = upTo(3); return same("door " + a + " " + b, real.door(a, b), model.door(a, b));
                case 5: a = aPerson(); b = upTo(3); return same("person " + a + " " + b, real.person(a, b), model.person(a, b));
                case 6: a = aBitting(); b = aLock(); return same("opens " + a + " " + b, real.opens(a, b), model.opens(a, b));
                case 7: case 57: case 58: a = aPerson(); b = aDoor(); return same("walk " + a + " " + b, real.walk(a, b), model.walk(a, b));
                case 8: a = aKey(); b = aPerson(); return same("give " + a + " " + b, real.give(a, b), model.give(a, b));
                case 9: a = aKey(); return random.nextInt(3) == 0 ? same("hang " + a, real.hang(a), model.hang(a)) : true;
                case 10: a = aKey(); return random.nextInt(3) == 0 ? same("lose " + a, real.lose(a), model.lose(a)) : true;
                case 11: a = aKey(); b = aPerson(); return same("find " + a + " " + b, real.find(a, b), model.find(a, b));
                case 12: a = aKey(); b = aChamber(); return same("file " + a + " " + b, real.file(a, b), model.file(a, b));
                case 13: a = aKey(); b = aBitting(); return same("recut " + a + " " + b, real.recut(a, b), model.recut(a, b));
                case 14: a = aLock(); b = upTo(1 << model.p.keys.size()); return same("pin " + a + " " + b, real.pin(a, b), model.pin(a, b));
                case 15: a = aLock(); b = aChamber(); c = upTo(model.p.depths); return same("part " + a + " " + b + " " + c, real.part(a, b, c), model.part(a, b, c));
                case 16: case 59: return same("undo", real.undo(), model.undo());
                case 17: case 60: return same("redo", real.redo(), model.redo());
                case 18: return same("legal", real.legal(), model.p.legal.size());
                case 19: a = upTo(model.p.legal.size()); return same("bitting " + a, real.bitting(a), model.bitting(a));
                case 20: a = aBitting(); return same("rank " + a, real.rank(a), model.p.legal.indexOf(a));
                case 21: a = aLock(); return same("ghosts " + a, real.ghosts(a), model.ghosts(a));
                case 22: a = aLock(); b = upTo(Math.max(0, model.ghosts(a)) + 1); return same("ghost " + a + " " + b, real.ghost(a, b), model.ghost(a, b));
                case 23: a = someLocks(); b = upTo(2); return same("common " + a + " " + b, real.common(a, b), model.common(a, b));
                case 24: a = upTo(3); return same("master " + a, real.master(a), model.master(a));
                case 25: a = someLocks(); b = someLocks() & (random.nextInt(4) == 0 ? -1 : ~a); return same("cutFor " + a + " " + b, real.cutFor(a, b), model.cutFor(a, b));
                case 26: a = aKey(); b = aLock(); c = upTo(2); return same("filing " + a + " " + b + " " + c, real.filing(a, b, c), model.filing(a, b, c));
                case 27: a = upTo(3); return same("broken " + a, real.broken(a), model.pairs(a, false));
                case 28: a = upTo(3); return same("strays " + a, real.strays(a), model.pairs(a, true));
                case 29: a = aKey(); return same("keeps " + a, real.keeps(a), model.keeps(a));
                case 30: a = aKey(); return same("leftOver " + a, real.leftOver(a), model.leftOver(a));
                case 31: case 61: return route();
                case 32: a = aRoom(); b = aRoom(); c = upTo(2); return same("bunch " + a + " " + b + " " + c, real.bunch(a, b, c), model.bunch(a, b, c));
                case 33: a = aPerson(); return same("together " + a, real.together(a), model.together(a));
                case 34: a = aRoom(); return same("comers " + a, real.comers(a), model.comers(a));
                case 35: case 62: a = aPerson(); b = aPerson(); c = upTo(2); return same("trade " + a + " " + b + " " + c, real.trade(a, b, c), model.trade(a, b, c));
                case 36: a = aKey(); b = aKey(); return same("span " + a + " " + b, real.span(a, b), model.span(a, b));
                case 37: a = aKey(); return same("twin " + a, real.twin(a), model.twin(a));
                case 38: a = upTo(60); return same("book " + a, real.book(a), model.book(a));
                case 39: a = aKey(); b = aLock(); return same("lasts " + a + " " + b, real.lasts(a, b), model.lasts(a, b));
                case 40: return same("blanks", real.blanks(), model.blanks());
                case 41: return same("stuck", real.stuck(), model.stuck());
                case 42: return same("barred", real.barred(), model.barred());
                case 43: return same("haunted", real.haunted(), model.haunted());
                case 44: return same("best", real.best(), model.best());
                case 45: a = upTo(2); return same("idle " + a, real.idle(a), model.idle(a));
                case 46: a = upTo(6); return same("law " + a, real.law(a), model.law(a));
                case 47: a = aLock(); b = upTo(2); return same("odds " + a + " " + b, real.odds(a, b), model.odds(a, b));
                case 48: a = upTo(6); return same("lies " + a, real.lies(a), model.lies(a));
                case 49: a = aLock(); boolean is = random.nextInt(3) == 0; return same("tried " + a + " " + is, real.tried(a, is), model.tried(a, is));
                case 50: a = upTo(model.tries.size()); return same("untell " + a, real.untell(a), model.untell(a));
                case 51: a = random.nextInt(4) == 0 ? upTo(1001) : random.nextInt(3); return same("later " + a, real.later(a), model.later(a));
                case 52: a = aTime(); return same("fits " + a, real.fits(a), model.fits(a).size());
                case 53: a = aChamber(); b = aTime(); return same("sure " + a + " " + b, real.sure(a, b), model.sure(a, b));
                case 54: a = upTo(2); b = aTime(); return same("ask " + a + " " + b, real.ask(a, b), model.ask(a, b));
                case 55: a = upTo(3); return random.nextInt(3) == 0 ? same("back " + a, real.back(a), model.back(a)) : same("image " + a, real.image(a), model.image(a));
                default: a = upTo(13); a = a == 12 ? 15 : a; return same("about " + a, real.about(a), model.about(a));
            }
        }

        private boolean route() {
            int a = aPerson();
            int b = aRoom();
            boolean same = same("route " + a + " " + b, real.route(a, b), model.route(a, b));
            for (int i = 0; i <= model.lying.size() && same; i++) {
                same = same("lies " + i, real.lies(i), model.lies(i));
            }
            return same;
        }

        private int someLocks() {
            int n = model.p.locks.size();
            return random.nextInt(3) == 0 ? 1 << upTo(n) : upTo(1 << n);
        }
    }

    /** Texts: mostly right ones, some of them spoilt. */
    private static final class Texts {
        private static final String[] NAMES = {"a", "b", "c", "red", "blue", "front", "part", "line", "n", "abcdefgh", "unit", "e", "hall", "z", "yy", "plan"};
        private static final String[] SPOIL = {";", "(", ")", "/", "0", "1", "9", "x", " ", "key", "lock ", " not ", "$", "12345", "abcdefghi", "7a", "\n", "holds ", "\u00ff", "\t", "A", "cut", "-", " wear ", " draw 3;", "step 2;", "0/0", "room a;"};
        private final Random random;
        private final StringBuilder text = new StringBuilder();
        private int units = 0;

        Texts(Random random) {
            this.random = random;
        }

        private int upTo(int n) {
            return random.nextInt(n + 1);
        }

        private boolean often() {
            return random.nextInt(5) != 0;
        }

        private void put(Object... pieces) {
            for (Object piece : pieces) {
                String s = String.valueOf(piece);
                char last = text.length() == 0 ? ';' : text.charAt(text.length() - 1);
                boolean needs = Character.isLetterOrDigit(last) && Character.isLetterOrDigit(s.charAt(0))
                        && !(Character.isLetter(last) && Character.isDigit(s.charAt(0)));
                if (needs || random.nextInt(3) == 0) {
                    text.append(random.nextInt(12) == 0 ? "\n" : " ");
                }
                text.append(s);
            }
        }

        private String[] names(int n) {
            List<String> left = new ArrayList<>(Arrays.asList(NAMES));
            String[] chosen = new String[n];
            for (int i = 0; i < n; i++) {
                chosen[i] = left.remove(random.nextInt(left.size()));
            }
            return chosen;
        }

        String text() {
            int chambers = 5;
            int depths = 6;
            int step = 5;
            if (often()) {
                chambers = 2 + upTo(3);
                put("chambers", chambers, ";");
            }
            if (often()) {
                depths = 2 + upTo(4);
                put("depths", depths, ";");
            }
            if (often()) {
                step = upTo(random.nextBoolean() ? 2 : 5);
                put("step", step, ";");
            }
            String[] keys = names(upTo(8));
            String[] locks = names(random.nextInt(8) == 0 ? 0 : 1 + upTo(5));
            String[] rooms = names(1 + upTo(5));
            int[][] cuts = new int[keys.length][chambers];
            for (int k = 0; k < keys.length; k++) {
                keyLine(keys[k], cuts[k], chambers, depths, step);
            }
            int rich = random.nextInt(4);
            for (String lock : locks) {
                lockLine(lock, cuts, chambers, depths, rich);
            }
            for (String room : rooms) {
                put("room", room, ";");
            }
            if (random.nextInt(5) != 0) {
                wearLine();
            }
            doorLines(rooms, locks);
            peopleLines(rooms, keys);
            ruleLines(keys, locks);
            if (often()) {
                put("draw", random.nextInt(1000), ";");
            }
            return spoilt();
        }

        private void keyLine(String name, int[] cuts, int chambers, int depths, int step) {
            put("key", name);
            for (int c = 0; c < chambers; c++) {
                int low = c == 0 ? 0 : Math.max(0, cuts[c - 1] - step);
                int high = c == 0 ? depths - 1 : Math.min(depths - 1, cuts[c - 1] + step);
                cuts[c] = low + random.nextInt(high - low + 1);
                put(random.nextInt(10) == 0 ? "00" + cuts[c] : cuts[c]);
            }
            put(";");
        }

        private void lockLine(String name, int[][] cuts, int chambers, int depths, int rich) {
            put("lock", name);
            int key = cuts.length == 0 ? -1 : random.nextInt(cuts.length);
            for (int c = 0; c < chambers; c++) {
                TreeSet<Integer> part = new TreeSet<>();
                part.add(key < 0 || random.nextInt(12) == 0 ? random.nextInt(depths) : cuts[key][c]);
                for (int i = upTo(rich); i > 0; i--) {
                    part.add(random.nextInt(depths));
                }
                List<Integer> order = new ArrayList<>(part);
                java.util.Collections.shuffle(order, random);
                for (int i = 0; i < order.size(); i++) {
                    if (i > 0) {
                        put("/");
                    }
                    put(order.get(i));
                }
            }
            put(";");
        }

        private void wearLine() {
            put("wear");
            either(0);
            put(";");
        }

        private void either(int deep) {
            both(deep);
            while (random.nextInt(8) == 0 && units < 28) {
                put("or");
                both(deep);
            }
        }

        private void both(int deep) {
            one(deep);
            while (random.nextInt(8) == 0 && units < 28) {
                put("and");
                one(deep);
            }
        }

        private void one(int deep) {
            if (random.nextInt(8) == 0 && deep < 7) {
                put("not");
                one(deep + 1);
                return;
            }
            sum(deep);
            if (random.nextInt(6) == 0) {
                put(new String[] {"<", ">", "="}[random.nextInt(3)]);
                sum(deep);
            }
        }

        private void sum(int deep) {
            term(deep);
            while (random.nextInt(3) == 0 && units < 28) {
                put(random.nextBoolean() ? "+" : "-");
                term(deep);
            }
        }

        private void term(int deep) {
            unit(deep);
            while (random.nextInt(3) == 0 && units < 28) {
                put(new String[] {"*", "/", "%"}[random.nextInt(3)]);
                unit(deep);
            }
        }

        private void unit(int deep) {
            units++;
            int r = random.nextInt(8);
            if (r == 0 && deep < 7 && units < 25) {
                put("(");
                either(deep + 1);
                put(")");
            } else if (r < 5) {
                put(new String[] {"cut", "beside", "uses", "chamber"}[random.nextInt(4)]);
            } else {
                put(random.nextInt(random.nextInt(4) == 0 ? 10000 : 120));
            }
        }

        private void doorLines(String[] rooms, String[] locks) {
            String[] doors = names(upTo(8));
            for (int d = 0; d < doors.length && rooms.length > 1 && locks.length > 0; d++) {
                int from = random.nextInt(rooms.length);
                int to = (from + 1 + random.nextInt(rooms.length - 1)) % rooms.length;
                put("door", doors[d], "from", rooms[from], "to", rooms[to], "lock", locks[random.nextInt(locks.length)], ";");
            }
        }

        private void peopleLines(String[] rooms, String[] keys) {
            String[] people = names(upTo(4));
            List<String> free = new ArrayList<>(Arrays.asList(keys));
            for (String person : people) {
                put("person", person, "in", rooms[random.nextInt(rooms.length)]);
                int n = Math.min(free.size(), upTo(3));
                if (n > 0) {
                    put("holds");
                }
                for (int i = 0; i < n; i++) {
                    put(free.remove(random.nextInt(free.size())));
                }
                put(";");
            }
        }

        private void ruleLines(String[] keys, String[] locks) {
            for (String key : keys) {
                for (String lock : locks) {
                    int r = random.nextInt(6);
                    if (r < 2) {
                        put(r == 0 ? "must" : "never", key, lock, ";");
                    }
                }
            }
        }

        private String spoilt() {
            if (random.nextInt(4) == 0 && text.length() > 0) {
                for (int i = 1 + upTo(1); i > 0; i--) {
                    int at = random.nextInt(text.length());
                    int r = random.nextInt(4);
                    String piece = SPOIL[random.nextInt(SPOIL.length)];
                    if (r == 0) {
                        text.deleteCharAt(at);
                    } else if (r == 1) {
                        text.insert(at, piece);
                    } else if (r == 2) {
                        text.setLength(at);
                    } else {
                        text.replace(at, Math.min(text.length(), at + piece.length()), piece);
                    }
                    if (text.length() == 0) {
                        break;
                    }
                }
            }
            if (text.length() > 1600) {
                text.setLength(1600);
            }
            return text.toString();
        }
    }

    /** What a plan told, and all legal bittings by their numbers. */
    private static final class Plan {
        int chambers = 5;
        int depths = 6;
        int step = 5;
        int units = 0;
        int draw = 0;
        List<String> keys = new ArrayList<>();
        List<int[]> cuts = new ArrayList<>();
        List<String> locks = new ArrayList<>();
        List<List<TreeSet<Integer>>> parts = new ArrayList<>();
        List<String> rooms = new ArrayList<>();
        List<String> doors = new ArrayList<>();
        List<int[]> doorData = new ArrayList<>();
        List<String> people = new ArrayList<>();
        List<Integer> personRoom = new ArrayList<>();
        Map<Integer, Integer> holder = new HashMap<>();
        Map<Integer, Integer> rule = new HashMap<>();
        Node wear = null;
        List<Integer> legal = new ArrayList<>();
        int sizes = 0;
        boolean wearTold = false;
        boolean drawTold = false;

        void listLegal() {
            legal = new ArrayList<>();
            int all = (int) Math.pow(depths, chambers);
            for (int n = 0; n < all; n++) {
                if (isLegal(digits(n), step)) {
                    legal.add(n);
                }
            }
        }

        int[] digits(int n) {
            int[] d = new int[chambers];
            for (int c = chambers - 1; c >= 0; c--) {
                d[c] = n % depths;
                n /= depths;
            }
            return d;
        }

        int number(int[] d) {
            int n = 0;
            for (int x : d) {
                n = n * depths + x;
            }
            return n;
        }

        static boolean isLegal(int[] d, int step) {
            for (int c = 1; c < d.length; c++) {
                if (Math.abs(d[c] - d[c - 1]) > step) {
                    return false;
                }
            }
            return true;
        }
    }

    private static final class Node {
        final String op;
        final List<Node> below;

        Node(String op, Node... below) {
            this.op = op;
            this.below = List.of(below);
        }

        int value(Map<String, Integer> names) {
            if (below.isEmpty()) {
                return names.containsKey(op) ? names.get(op) : Integer.parseInt(op);
            }
            int a = below.get(0).value(names);
            if (op.equals("not")) {
                return a == 0 ? 1 : 0;
            }
            int b = below.get(1).value(names);
            switch (op) {
                case "or": return a != 0 || b != 0 ? 1 : 0;
                case "and": return a != 0 && b != 0 ? 1 : 0;
                case "<": return a < b ? 1 : 0;
                case ">": return a > b ? 1 : 0;
                case "=": return a == b ? 1 : 0;
                case "+": return a + b;
                case "-": return a - b;
                case "*": return a * b;
                case "/": return b == 0 ? 0 : (int) ((long) a / b);
                default: return b == 0 ? 0 : (int) ((long) a % b);
            }
        }
    }

    private static final class Fault extends RuntimeException {
        private static final long serialVersionUID = 1L;
        final int kind;
        final int place;

        Fault(int kind, int place) {
            this.kind = kind;
            this.place = place;
        }
    }

    /** Reads a text by looking at what stands at a place. */
    private static final class TextReader {
        private static final List<String> OWN = List.of("chambers", "depths", "step", "key", "lock", "room", "door", "from", "to", "person", "in", "holds", "must", "never", "wear", "draw", "or", "and", "not", "cut", "beside", "uses", "chamber");
        private final String text;
        private final Plan p = new Plan();
        private int at = 0;

        TextReader(String text) {
            this.text = text;
        }

        private void skip() {
            while (at < text.length() && (text.charAt(at) == ' ' || text.charAt(at) == '\n')) {
                at++;
            }
        }

        /** The token that stands here ("" at the end), or null if there is none. */
        private String peek() {
            skip();
            String rest = text.substring(at);
            if (rest.isEmpty()) {
                return "";
            }
            String word = rest.replaceAll("(?s)^([a-z]*).*", "$1");
            if (!word.isEmpty()) {
                return word.length() <= 8 ? word : null;
            }
            String digits = rest.replaceAll("(?s)^([0-9]*).*", "$1");
            if (!digits.isEmpty()) {
                boolean letter = rest.substring(digits.length()).matches("(?s)[a-z].*");
                return digits.length() <= 4 && !letter ? digits : null;
            }
            return ";()<>=+-*/%".indexOf(rest.charAt(0)) >= 0 ? rest.substring(0, 1) : null;
        }

        private Fault misplaced() {
            skip();
            return new Fault(peek() == null ? 1 : 2, at);
        }

        private boolean isNext(String token) {
            return token.equals(peek());
        }

        private void next() {
            at += peek().length();
        }

        private void expect(String token) {
            if (!isNext(token)) {
                throw misplaced();
            }
            next();
        }

        private boolean isNumber(String token) {
            return token != null && token.matches("[0-9]+");
        }

        private boolean isName(String token) {
            return token != null && token.matches("[a-z]+") && !OWN.contains(token);
        }

        private String name() {
            if (!isName(peek())) {
                throw misplaced();
            }
            return peek();
        }

        private int number(int low, int high) {
            if (!isNumber(peek())) {
                throw misplaced();
            }
            int n = Integer.parseInt(peek());
            if (n < low || n > high) {
                throw new Fault(4, at);
            }
            return n;
        }

        private int known(List<String> names) {
            int i = names.indexOf(name());
            if (i < 0) {
                throw new Fault(5, at);
            }
            return i;
        }

        private void fresh(List<String> names, int most) {
            if (names.size() == most) {
                throw misplaced();
            }
            next();
            if (names.contains(name())) {
                throw new Fault(3, at);
            }
            names.add(peek());
            next();
        }

        Plan read() {
            while (!isNext("")) {
                line();
                expect(";");
            }
            p.listLegal();
            return p;
        }

        private void size(int bit, int low, int high) {
            if ((p.sizes & bit) != 0 || !p.keys.isEmpty() || !p.locks.isEmpty()) {
                throw misplaced();
            }
            p.sizes |= bit;
            next();
            int n = number(low, high);
            next();
            if (bit == 1) {
                p.chambers = n;
            } else if (bit == 2) {
                p.depths = n;
            } else {
                p.step = n;
            }
        }

        private void line() {
            String word = peek();
            if (word == null) {
                throw misplaced();
            }
            switch (word) {
                case "chambers": size(1, 2, 5); break;
                case "depths": size(2, 2, 6); break;
                case "step": size(4, 0, 5); break;
                case "key": key(); break;
                case "lock": lock(); break;
                case "room": fresh(p.rooms, 6); break;
                case "door": door(); break;
                case "person": person(); break;
                case "must": rule(1); break;
                case "never": rule(2); break;
                case "wear":
                    if (p.wearTold) {
                        throw misplaced();
                    }
                    p.wearTold = true;
                    next();
                    p.wear = either(0);
                    break;
                case "draw":
                    if (p.drawTold) {
                        throw misplaced();
                    }
                    p.drawTold = true;
                    next();
                    p.draw = number(0, 999);
                    next();
                    break;
                default: throw misplaced();
            }
        }

        private void key() {
            fresh(p.keys, 8);
            int[] cuts = new int[p.chambers];
            for (int c = 0; c < p.chambers; c++) {
                cuts[c] = number(0, p.depths - 1);
                if (c > 0 && Math.abs(cuts[c] - cuts[c - 1]) > p.step) {
                    throw new Fault(4, at);
                }
                next();
            }
            p.cuts.add(cuts);
        }

        private void lock() {
            fresh(p.locks, 6);
            List<TreeSet<Integer>> parts = new ArrayList<>();
            for (int c = 0; c < p.chambers; c++) {
                TreeSet<Integer> part = new TreeSet<>();
                boolean more = true;
                while (more) {
                    if (!part.add(number(0, p.depths - 1))) {
                        throw new Fault(3, at);
                    }
                    next();
                    more = isNext("/");
                    if (more) {
                        next();
                    }
                }
                parts.add(part);
            }
            p.parts.add(parts);
        }

        private void door() {
            fresh(p.doors, 8);
            expect("from");
            int from = known(p.rooms);
            next();
            expect("to");
            int to = known(p.rooms);
            if (from == to) {
                throw new Fault(3, at);
            }
            next();
            expect("lock");
            int lock = known(p.locks);
            next();
            p.doorData.add(new int[] {from, to, lock});
        }

        private void person() {
            fresh(p.people, 4);
            expect("in");
            p.personRoom.add(known(p.rooms));
            next();
            if (isNext("holds")) {
                next();
                do {
                    int key = known(p.keys);
                    if (p.holder.containsKey(key)) {
                        throw new Fault(3, at);
                    }
                    p.holder.put(key, p.people.size() - 1);
                    next();
                } while (isName(peek()));
            }
        }

        private void rule(int kind) {
            next();
            int key = known(p.keys);
            next();
            int lock = known(p.locks);
            if (p.rule.containsKey(key * 10 + lock)) {
                throw new Fault(3, at);
            }
            p.rule.put(key * 10 + lock, kind);
            next();
        }

        private Node either(int within) {
            Node n = both(within);
            while (isNext("or")) {
                next();
                n = new Node("or", n, both(within));
            }
            return n;
        }

        private Node both(int within) {
            Node n = one(within);
            while (isNext("and")) {
                next();
                n = new Node("and", n, one(within));
            }
            return n;
        }

        private Node one(int within) {
            if (isNext("not")) {
                if (within >= 7) {
                    throw misplaced();
                }
                next();
                return new Node("not", one(within + 1));
            }
            Node n = sum(within);
            String sign = peek();
            if (sign != null && !sign.isEmpty() && "<>=".contains(sign)) {
                next();
                n = new Node(sign, n, sum(within));
            }
            return n;
        }

        private Node sum(int within) {
            Node n = term(within);
            while (isNext("+") || isNext("-")) {
                String sign = peek();
                next();
                n = new Node(sign, n, term(within));
            }
            return n;
        }

        private Node term(int within) {
            Node n = unit(within);
            while (isNext("*") || isNext("/") || isNext("%")) {
                String sign = peek();
                next();
                n = new Node(sign, n, unit(within));
            }
            return n;
        }

        private Node unit(int within) {
            String token = peek();
            boolean leaf = isNumber(token) || token != null && List.of("cut", "beside", "uses", "chamber").contains(token);
            boolean bracket = isNext("(");
            if (!leaf && !bracket || p.units == 30 || bracket && within >= 7) {
                throw misplaced();
            }
            p.units++;
            next();
            if (leaf) {
                return new Node(token);
            }
            Node n = either(within + 1);
            expect(")");
            return n;
        }
    }

    /** All that can change by acts. */
    private static final class World {
        List<int[]> cuts = new ArrayList<>();
        List<Integer> used = new ArrayList<>();
        List<Integer> holder = new ArrayList<>();
        List<List<TreeSet<Integer>>> parts = new ArrayList<>();
        List<Integer> room = new ArrayList<>();
        int seed = 0;

        World copy() {
            World w = new World();
            for (int[] c : cuts) {
                w.cuts.add(c.clone());
            }
            w.used.addAll(used);
            w.holder.addAll(holder);
            for (List<TreeSet<Integer>> lock : parts) {
                List<TreeSet<Integer>> l = new ArrayList<>();
                for (TreeSet<Integer> part : lock) {
                    l.add(new TreeSet<>(part));
                }
                w.parts.add(l);
            }
            w.room.addAll(room);
            w.seed = seed;
            return w;
        }
    }

    private static final class Model {
        Plan p = new Plan();
        World w = new World();
        int faultKind = 0;
        int faultPlace = -1;
        int time = 0;
        int taped = 0;
        List<int[]> tries = new ArrayList<>();
        List<Integer> lying = new ArrayList<>();
        private final ArrayDeque<World> undos = new ArrayDeque<>();
        private final ArrayDeque<World> redos = new ArrayDeque<>();
        private World[] boxes = new World[3];

        Model() {
            p.listLegal();
        }

        int end(int n) {
            if (n < 0 || n > taped) {
                return -1;
            }
            taped = n;
            return n;
        }

        int feed(int[] words) {
            if (taped + 4 * words.length > 1600) {
                return -1;
            }
            taped += 20;
            return taped;
        }

        int plan(String text) {
            taped = text.length();
            try {
                p = new TextReader(text).read();
            } catch (Fault fault) {
                faultKind = fault.kind;
                faultPlace = fault.place;
                return -1;
            }
            taped = 0;
            faultKind = 0;
            faultPlace = -1;
            w = new World();
            for (int k = 0; k < p.keys.size(); k++) {
                w.cuts.add(p.cuts.get(k).clone());
                w.used.add(0);
                w.holder.add(p.holder.getOrDefault(k, -1));
            }
            w.parts = p.parts;
            w.room.addAll(p.personRoom);
            w.seed = p.draw;
            w = w.copy();
            undos.clear();
            redos.clear();
            tries.clear();
            lying.clear();
            boxes = new World[3];
            return p.keys.size();
        }

        private boolean k(int key) {
            return key >= 0 && key < p.keys.size();
        }

        private boolean l(int lock) {
            return lock >= 0 && lock < p.locks.size();
        }

        private boolean r(int room) {
            return room >= 0 && room < p.rooms.size();
        }

        private boolean d(int door) {
            return door >= 0 && door < p.doors.size();
        }

        private boolean who(int person) {
            return person >= 0 && person < p.people.size();
        }

        private boolean ch(int chamber) {
            return chamber >= 0 && chamber < p.chambers;
        }

        private static boolean fit(int[] cuts, List<TreeSet<Integer>> parts) {
            for (int c = 0; c < cuts.length; c++) {
                if (!parts.get(c).contains(cuts[c])) {
                    return false;
                }
            }
            return true;
        }

        private boolean keyFits(int key, int lock) {
            return fit(w.cuts.get(key), w.parts.get(lock));
        }

        private static int bits(int n, Predicate<Integer> is) {
            int b = 0;
            for (int i = 0; i < n; i++) {
                b += is.test(i) ? 1 << i : 0;
            }
            return b;
        }

        private void act() {
            undos.push(w.copy());
            if (undos.size() > 40) {
                undos.removeLast();
            }
            redos.clear();
        }

        boolean undo() {
            if (undos.isEmpty()) {
                return false;
            }
            redos.push(w);
            w = undos.pop();
            return true;
        }

        boolean redo() {
            if (redos.isEmpty()) {
                return false;
            }
            undos.push(w);
            w = redos.pop();
            return true;
        }

        int key(int key, int what) {
            if (!k(key)) {
                return -3;
            }
            switch (what) {
                case 0: return p.number(w.cuts.get(key));
                case 1: return w.used.get(key);
                case 2: return w.holder.get(key);
                case 3: return bits(p.locks.size(), x -> keyFits(key, x));
                default: return -3;
            }
        }

        int cut(int key, int chamber) {
            return k(key) && ch(chamber) ? w.cuts.get(key)[chamber] : -1;
        }

        private int rule(int key, int lock) {
            return p.rule.getOrDefault(key * 10 + lock, 0);
        }

        int lock(int lock, int what) {
            if (!l(lock)) {
                return -1;
            }
            int n = p.keys.size();
            switch (what) {
                case 0: return w.parts.get(lock).stream().mapToInt(TreeSet::size).sum();
                case 1: return bits(n, x -> keyFits(x, lock));
                case 2: return bits(n, x -> rule(x, lock) == 1);
                case 3: return bits(n, x -> rule(x, lock) == 2);
                default: return -1;
            }
        }

        int parts(int lock, int chamber) {
            return l(lock) && ch(chamber) ? bits(6, x -> w.parts.get(lock).get(chamber).contains(x)) : -1;
        }

        int door(int door, int what) {
            return d(door) && what >= 0 && what <= 2 ? p.doorData.get(door)[what] : -1;
        }

        private TreeSet<Integer> held(int person) {
            TreeSet<Integer> keys = new TreeSet<>();
            for (int key = 0; key < p.keys.size(); key++) {
                if (w.holder.get(key) == person) {
                    keys.add(key);
                }
            }
            return keys;
        }

        /** Rooms by the number of doors, from a room, with keys. */
        private Map<Integer, Integer> far(int room, TreeSet<Integer> keys) {
            Map<Integer, Integer> far = new HashMap<>();
            ArrayDeque<Integer> queue = new ArrayDeque<>();
            far.put(room, 0);
            queue.add(room);
            while (!queue.isEmpty()) {
                int here = queue.remove();
                for (int[] door : p.doorData) {
                    int there = door[0] == here ? door[1] : door[1] == here ? door[0] : -1;
                    boolean open = keys.stream().anyMatch(x -> keyFits(x, door[2]));
                    if (there >= 0 && open && !far.containsKey(there)) {
                        far.put(there, far.get(here) + 1);
                        queue.add(there);
                    }
                }
            }
            return far;
        }

        private int reach(int person, TreeSet<Integer> keys) {
            Map<Integer, Integer> far = far(w.room.get(person), keys);
            return bits(p.rooms.size(), far::containsKey);
        }

        int person(int person, int what) {
            if (!who(person)) {
                return -1;
            }
            switch (what) {
                case 0: return w.room.get(person);
                case 1: return bits(p.keys.size(), held(person)::contains);
                case 2: return reach(person, held(person));
                default: return -1;
            }
        }

        int opens(int bitting, int lock) {
            if (!p.legal.contains(bitting) || !l(lock)) {
                return -1;
            }
            return fit(p.digits(bitting), w.parts.get(lock)) ? 1 : 0;
        }

        private void use(World on, int key) {
            on.seed = (on.seed * 137 + 71) % 1000;
            int c = on.seed % p.chambers;
            int[] cuts = on.cuts.get(key);
            int beside = -1;
            if (c > 0) {
                beside = cuts[c - 1];
            }
            if (c < p.chambers - 1) {
                beside = Math.max(beside, cuts[c + 1]);
            }
            int wear = p.wear == null ? 0
                    : p.wear.value(Map.of("cut", cuts[c], "beside", beside, "uses", on.used.get(key), "chamber", c));
            if (on.seed / 10 < wear) {
                cuts[c]++;
                if (cuts[c] >= p.depths || !Plan.isLegal(cuts, p.step)) {
                    cuts[c]--;
                }
            }
            on.used.set(key, on.used.get(key) + 1);
        }

        int walk(int person, int door) {
            if (!who(person) || !d(door)) {
                return -1;
            }
            int[] data = p.doorData.get(door);
            int here = w.room.get(person);
            if (here != data[0] && here != data[1]) {
                return -1;
            }
            for (int key : held(person)) {
                if (keyFits(key, data[2])) {
                    act();
                    use(w, key);
                    w.room.set(person, data[0] + data[1] - here);
                    return w.room.get(person);
                }
            }
            return -1;
        }

        private int hand(int key, int to) {
            act();
            return w.holder.set(key, to);
        }

        int give(int key, int person) {
            if (!k(key) || !who(person)) {
                return -3;
            }
            int from = w.holder.get(key);
            if (from == person || from == -2 || from >= 0 && !w.room.get(from).equals(w.room.get(person))) {
                return -3;
            }
            return hand(key, person);
        }

        int hang(int key) {
            return !k(key) || w.holder.get(key) < 0 ? -3 : hand(key, -1);
        }

        int lose(int key) {
            return !k(key) || w.holder.get(key) == -2 ? -3 : hand(key, -2);
        }

        int find(int key, int person) {
            if (!k(key) || !who(person) || w.holder.get(key) != -2) {
                return -1;
            }
            hand(key, person);
            return held(person).size();
        }

        int file(int key, int chamber) {
            if (!k(key) || !ch(chamber)) {
                return -1;
            }
            int[] cuts = w.cuts.get(key).clone();
            cuts[chamber]++;
            if (cuts[chamber] >= p.depths || !Plan.isLegal(cuts, p.step)) {
                return -1;
            }
            act();
            w.cuts.set(key, cuts);
            return cuts[chamber];
        }

        int recut(int key, int bitting) {
            if (!k(key) || !p.legal.contains(bitting)) {
                return -1;
            }
            act();
            w.used.set(key, 0);
            return p.number(w.cuts.set(key, p.digits(bitting)));
        }

        private List<TreeSet<Integer>> pinsFor(List<int[]> cuts) {
            List<TreeSet<Integer>> parts = new ArrayList<>();
            for (int c = 0; c < p.chambers; c++) {
                TreeSet<Integer> part = new TreeSet<>();
                for (int[] x : cuts) {
                    part.add(x[c]);
                }
                parts.add(part);
            }
            return parts;
        }

        int pin(int lock, int keys) {
            if (!l(lock) || keys <= 0 || keys >= 1 << p.keys.size()) {
                return -1;
            }
            List<int[]> chosen = new ArrayList<>();
            for (int key = 0; key < p.keys.size(); key++) {
                if ((keys >> key & 1) == 1) {
                    chosen.add(w.cuts.get(key));
                }
            }
            act();
            w.parts.set(lock, pinsFor(chosen));
            return lock(lock, 0);
        }

        int part(int lock, int chamber, int depth) {
            if (!l(lock) || !ch(chamber) || depth < 0 || depth >= p.depths) {
                return -1;
            }
            TreeSet<Integer> part = w.parts.get(lock).get(chamber);
            if (part.size() == 1 && part.contains(depth)) {
                return -1;
            }
            act();
            if (!part.remove(depth)) {
                part.add(depth);
            }
            return parts(lock, chamber);
        }

        int bitting(int i) {
            return i >= 0 && i < p.legal.size() ? p.legal.get(i) : -1;
        }

        private List<Integer> ghostList(int lock) {
            List<Integer> list = new ArrayList<>();
            for (int n : p.legal) {
                boolean had = w.cuts.stream().anyMatch(x -> p.number(x) == n);
                if (!had && fit(p.digits(n), w.parts.get(lock))) {
                    list.add(n);
                }
            }
            return list;
        }

        int ghosts(int lock) {
            return l(lock) ? ghostList(lock).size() : -1;
        }

        int ghost(int lock, int i) {
            if (!l(lock) || i < 0) {
                return -1;
            }
            List<Integer> list = ghostList(lock);
            return i < list.size() ? list.get(i) : -1;
        }

        private int opened(int n) {
            int[] cuts = p.digits(n);
            return bits(p.locks.size(), x -> fit(cuts, w.parts.get(x)));
        }

        private boolean noSuch(int locks) {
            return locks < 0 || locks >= 1 << p.locks.size();
        }

        int common(int locks, int what) {
            if (noSuch(locks) || what < 0 || what > 1) {
                return -1;
            }
            int count = 0;
            int least = -1;
            for (int n : p.legal) {
                if ((opened(n) & locks) == locks) {
                    count++;
                    least = least < 0 ? n : least;
                }
            }
            return what == 0 ? count : least;
        }

        int master(int what) {
            int best = -1;
            int most = -1;
            for (int n : p.legal) {
                if (Integer.bitCount(opened(n)) > most) {
                    best = n;
                    most = Integer.bitCount(opened(n));
                }
            }
            return what == 0 ? best : what == 1 ? most : what == 2 ? opened(best) : -1;
        }

        int cutFor(int open, int shut) {
            if (noSuch(open) || noSuch(shut)) {
                return -1;
            }
            for (int n : p.legal) {
                int set = opened(n);
                if ((set & open) == open && (set & shut) == 0) {
                    return n;
                }
            }
            return -1;
        }

        int filing(int key, int lock, int what) {
            if (!k(key) || !l(lock) || what < 0 || what > 1) {
                return -1;
            }
            int best = -1;
            int least = 1000;
            for (int n : p.legal) {
                int[] cuts = p.digits(n);
                int sum = 0;
                for (int c = 0; c < p.chambers; c++) {
                    int deeper = cuts[c] - w.cuts.get(key)[c];
                    sum += deeper < 0 ? 1000 : deeper;
                }
                if (sum < least && fit(cuts, w.parts.get(lock))) {
                    least = sum;
                    best = n;
                }
            }
            return best < 0 ? -1 : what == 0 ? least : best;
        }

        private boolean stray(int key, int lock) {
            if (rule(key, lock) != 2) {
                return false;
            }
            List<int[]> must = new ArrayList<>();
            for (int x = 0; x < p.keys.size(); x++) {
                if (rule(x, lock) == 1) {
                    must.add(w.cuts.get(x));
                }
            }
            return fit(w.cuts.get(key), must.isEmpty() ? w.parts.get(lock) : pinsFor(must));
        }

        private List<int[]> pairList(boolean stray) {
            List<int[]> list = new ArrayList<>();
            for (int key = 0; key < p.keys.size(); key++) {
                for (int lock = 0; lock < p.locks.size(); lock++) {
                    boolean broken = rule(key, lock) == 1 && !keyFits(key, lock) || rule(key, lock) == 2 && keyFits(key, lock);
                    if (stray ? stray(key, lock) : broken) {
                        list.add(new int[] {key, lock});
                    }
                }
            }
            return list;
        }

        int pairs(int what, boolean stray) {
            List<int[]> list = pairList(stray);
            if (what == 0) {
                return list.size();
            }
            return what < 0 || what > 2 || list.isEmpty() ? -1 : list.get(0)[what - 1];
        }

        int keeps(int key) {
            if (!k(key)) {
                return -1;
            }
            int[] before = w.cuts.get(key);
            int found = -1;
            for (int i = 0; i < p.legal.size() && found < 0; i++) {
                w.cuts.set(key, p.digits(p.legal.get(i)));
                if (pairList(true).isEmpty()) {
                    found = p.legal.get(i);
                }
            }
            w.cuts.set(key, before);
            return found;
        }

        int leftOver(int key) {
            if (!k(key)) {
                return -1;
            }
            return bits(p.locks.size(), lock -> {
                List<int[]> must = new ArrayList<>();
                for (int x = 0; x < p.keys.size(); x++) {
                    if (x != key && rule(x, lock) == 1) {
                        must.add(w.cuts.get(x));
                    }
                }
                return !must.isEmpty() && fit(w.cuts.get(key), pinsFor(must));
            });
        }

        /** The first of all shortest ways, by trying all ways of that length in order. */
        private boolean way(int here, int room, int left, TreeSet<Integer> keys) {
            if (left == 0) {
                return here == room;
            }
            for (int i = 0; i < p.doorData.size(); i++) {
                int[] door = p.doorData.get(i);
                int there = door[0] == here ? door[1] : door[1] == here ? door[0] : -1;
                if (there >= 0 && keys.stream().anyMatch(x -> keyFits(x, door[2]))) {
                    lying.add(i);
                    if (way(there, room, left - 1, keys)) {
                        return true;
                    }
                    lying.remove(lying.size() - 1);
                }
            }
            return false;
        }

        int route(int person, int room) {
            lying.clear();
            if (!who(person) || !r(room)) {
                return -1;
            }
            for (int n = 0; n < 6; n++) {
                if (way(w.room.get(person), room, n, held(person))) {
                    return n;
                }
            }
            return -1;
        }

        int bunch(int from, int to, int what) {
            if (!r(from) || !r(to) || what < 0 || what > 1) {
                return -1;
            }
            int best = -1;
            for (int set = 0; set < 1 << p.keys.size(); set++) {
                TreeSet<Integer> keys = new TreeSet<>();
                for (int key = 0; key < p.keys.size(); key++) {
                    if ((set >> key & 1) == 1) {
                        keys.add(key);
                    }
                }
                boolean lost = keys.stream().anyMatch(x -> w.holder.get(x) == -2);
                boolean fewer = best < 0 || Integer.bitCount(set) < Integer.bitCount(best);
                if (!lost && fewer && far(from, keys).containsKey(to)) {
                    best = set;
                }
            }
            return best < 0 ? -1 : what == 0 ? Integer.bitCount(best) : best;
        }

        int together(int person) {
            if (!who(person)) {
                return -1;
            }
            List<TreeSet<Integer>> bunches = new ArrayList<>();
            for (int x = 0; x < p.people.size(); x++) {
                bunches.add(held(x));
            }
            boolean changed = true;
            while (changed) {
                changed = false;
                for (int x = 0; x < p.people.size(); x++) {
                    for (int y = 0; y < p.people.size(); y++) {
                        if ((reach(x, bunches.get(x)) & reach(y, bunches.get(y))) != 0) {
                            changed |= bunches.get(x).addAll(bunches.get(y));
                        }
                    }
                }
            }
            return reach(person, bunches.get(person));
        }

        int comers(int room) {
            return r(room) ? bits(p.people.size(), x -> (person(x, 2) >> room & 1) == 1) : -1;
        }

        int trade(int person, int other, int what) {
            if (!who(person) || !who(other) || person == other || what < 0 || what > 1) {
                return -1;
            }
            for (int a : held(person)) {
                for (int b : held(other)) {
                    TreeSet<Integer> mine = held(person);
                    TreeSet<Integer> theirs = held(other);
                    mine.remove(a);
                    mine.add(b);
                    theirs.remove(b);
                    theirs.add(a);
                    if (Integer.bitCount(reach(person, mine)) > Integer.bitCount(reach(person, held(person)))
                            && Integer.bitCount(reach(other, theirs)) > Integer.bitCount(reach(other, held(other)))) {
                        return what == 0 ? a : b;
                    }
                }
            }
            return -1;
        }

        int span(int key, int other) {
            if (!k(key) || !k(other)) {
                return -1;
            }
            int sum = 0;
            for (int c = 0; c < p.chambers; c++) {
                sum += Math.abs(w.cuts.get(key)[c] - w.cuts.get(other)[c]);
            }
            return sum;
        }

        int twin(int key) {
            int best = -1;
            for (int x = 0; x < p.keys.size() && k(key); x++) {
                if (x != key && (best < 0 || span(key, x) < span(key, best))) {
                    best = x;
                }
            }
            return best;
        }

        int book(int n) {
            if (n < 0 || n > 59) {
                return -1;
            }
            List<Integer> book = new ArrayList<>();
            for (int x : p.legal) {
                boolean good = true;
                for (int y : book) {
                    int differ = 0;
                    for (int c = 0; c < p.chambers; c++) {
                        differ += p.digits(x)[c] != p.digits(y)[c] ? 1 : 0;
                    }
                    good &= differ >= 2;
                }
                if (good) {
                    book.add(x);
                }
                if (book.size() > n) {
                    return book.get(n);
                }
            }
            return -1;
        }

        int lasts(int key, int lock) {
            if (!k(key) || !l(lock)) {
                return -1;
            }
            World on = w.copy();
            int uses = 0;
            while (fit(on.cuts.get(key), on.parts.get(lock))) {
                use(on, key);
                uses++;
                if (uses > 200) {
                    return -1;
                }
            }
            return uses;
        }

        int blanks() {
            return (int) p.legal.stream().filter(x -> opened(x) == 0).count();
        }

        int stuck() {
            return bits(p.locks.size(), lock -> {
                for (int key = 0; key < p.keys.size(); key++) {
                    if (w.holder.get(key) != -2 && keyFits(key, lock)) {
                        return false;
                    }
                }
                return true;
            });
        }

        int barred() {
            return bits(p.rooms.size(), room -> comers(room) == 0);
        }

        int haunted() {
            int best = -1;
            for (int lock = 0; lock < p.locks.size(); lock++) {
                best = best < 0 || ghosts(lock) > ghosts(best) ? lock : best;
            }
            return best;
        }

        int best() {
            int best = -1;
            for (int key = 0; key < p.keys.size(); key++) {
                best = best < 0 || Integer.bitCount(key(key, 3)) > Integer.bitCount(key(best, 3)) ? key : best;
            }
            return best;
        }

        int idle(int what) {
            return what < 0 || what > 1 ? -1 : bits(p.keys.size(), x -> w.holder.get(x) == -1 - what);
        }

        int law(int n) {
            if (n < 0 || n > 5) {
                return -1;
            }
            int all = (int) Math.pow(p.depths, p.chambers);
            int count = 0;
            for (int x = 0; x < all; x++) {
                count += Plan.isLegal(p.digits(x), n) ? 1 : 0;
            }
            return count;
        }

        int odds(int lock, int part) {
            if (!l(lock) || part < 0 || part > 1) {
                return -1;
            }
            int up = common(1 << lock, 0);
            int down = p.legal.size();
            for (int x = down; x > 1; x--) {
                if (up % x == 0 && down % x == 0) {
                    up /= x;
                    down /= x;
                }
            }
            return part == 0 ? up : down;
        }

        int lies(int i) {
            return i >= 0 && i < lying.size() ? lying.get(i) : -2;
        }

        int tried(int lock, boolean is) {
            if (!l(lock) || tries.size() == 30) {
                return -1;
            }
            tries.add(new int[] {lock, is ? 1 : 0, time, Integer.MAX_VALUE});
            return tries.size() - 1;
        }

        boolean untell(int i) {
            if (i < 0 || i >= tries.size() || tries.get(i)[3] != Integer.MAX_VALUE) {
                return false;
            }
            tries.get(i)[3] = time;
            return true;
        }

        int later(int by) {
            if (by < 0 || by > 1000 || time + by > 100000) {
                return -1;
            }
            time += by;
            return time;
        }

        List<Integer> fits(int at) {
            List<Integer> list = new ArrayList<>();
            for (int n : p.legal) {
                boolean good = true;
                for (int[] t : tries) {
                    boolean untold = t[3] != Integer.MAX_VALUE && t[3] <= at;
                    if (t[2] <= at && !untold) {
                        good &= fit(p.digits(n), p.parts.get(t[0])) == (t[1] == 1);
                    }
                }
                if (good) {
                    list.add(n);
                }
            }
            return list;
        }

        int sure(int chamber, int at) {
            List<Integer> list = fits(at);
            if (list.isEmpty() || !ch(chamber)) {
                return -1;
            }
            int depth = p.digits(list.get(0))[chamber];
            return list.stream().allMatch(x -> p.digits(x)[chamber] == depth) ? depth : -2;
        }

        int ask(int what, int at) {
            List<Integer> list = fits(at);
            int best = -1;
            int fewest = 0;
            for (int lock = 0; lock < p.locks.size(); lock++) {
                int yes = 0;
                for (int n : list) {
                    yes += fit(p.digits(n), p.parts.get(lock)) ? 1 : 0;
                }
                int left = Math.max(yes, list.size() - yes);
                if (best < 0 || left < fewest) {
                    best = lock;
                    fewest = left;
                }
            }
            return list.isEmpty() || best < 0 || what < 0 || what > 1 ? -1 : what == 0 ? best : fewest;
        }

        private int lost() {
            return Integer.bitCount(idle(1));
        }

        int image(int box) {
            if (box < 0 || box > 2) {
                return -1;
            }
            boxes[box] = w.copy();
            return lost();
        }

        int back(int box) {
            if (box < 0 || box > 2 || boxes[box] == null) {
                return -1;
            }
            w = boxes[box].copy();
            undos.clear();
            redos.clear();
            return lost();
        }

        int about(int what) {
            int[] all = {p.keys.size(), p.locks.size(), p.rooms.size(), p.doors.size(), p.people.size(), p.chambers,
                p.depths, p.step, w.seed, undos.size(), redos.size(), tries.size(), time, taped, p.units, lying.size()};
            return what >= 0 && what < all.length ? all[what] : -1;
        }
    }
}
