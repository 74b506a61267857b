import java.io.IOException;
import java.nio.file.Files;
import java.nio.file.Path;
import java.util.ArrayList;
import java.util.List;

/** What the boundary tests share: the document's sentences, answers that are due, calls that leave all as it was. */
final class Edge {
    static final int NONE = PinPlan.NONE;
    static final int MIN = Integer.MIN_VALUE;
    static final int MAX = Integer.MAX_VALUE;
    // red 012 = 6, blue 110 = 20, old 321 = 57, odd 222 = 42; of 64 BITTINGS 50 are LEGAL; the loft has no DOOR
    static final String FLAT = "chambers 3;depths 4;step 2;key red 0 1 2;key blue 1 1 0;key old 3 2 1;key odd 2 2 2;"
            + "lock front 0/1 1 2/0;lock back 1 1/2 0;lock vault 3 2 1/3;room hall;room study;room cellar;room loft;"
            + "door a from hall to study lock front;door b from study to cellar lock back;"
            + "door c from hall to cellar lock vault;person ann in hall holds red;person bob in study holds blue;"
            + "person cid in study;must red front;must blue front;must blue back;never red back;never old front;"
            + "wear 30;draw 7;";

    private static final int TERMS = 0;
    private static final int PROMISES = 63;

    private static int wrong = 0;
    private static int section = TERMS;
    private static String sentence = "";
    private static final List<List<String>> quotes = new ArrayList<>();

    private Edge() {
    }

    interface Maker {
        PinPlan make();
    }

    interface Call {
        int on(PinPlan x);
    }

    /** What follows tests sentences of a promise (0: of the Terms). */
    static void promise(int number) {
        section = number;
    }

    /** What follows tests this sentence, word for word as the document has it. */
    static void says(String quote) {
        while (quotes.size() <= PROMISES) {
            quotes.add(new ArrayList<>());
        }
        sentence = quote;
        quotes.get(section).add(quote);
    }

    static void complain(String what) {
        wrong++;
        System.out.println((section == TERMS ? "terms" : "promise " + section) + " \"" + sentence + "\": " + what);
    }

    static void due(String call, int got, int want) {
        if (got != want) {
            complain(call + " answered " + got + ", due is " + want);
        }
    }

    static void due(String call, boolean got, boolean want) {
        due(call, one(got), one(want));
    }

    static int one(boolean is) {
        return is ? 1 : 0;
    }

    /** Numbers that none has, if there are so many (8 at most); to a shift 32 is as 0, and 33 as 1. */
    static int[] outside(int count) {
        return new int[] {count, count + 1, 9, 31, 32, 33, 64, 256, MAX - 1, MAX, -1, -2, -3, -32, MIN, MIN + 1};
    }

    /** What no such number is: the first ones behind and ahead of low .. high, and far ones. */
    static int[] beside(int low, int high) {
        return new int[] {low - 1, low - 2, high + 1, high + 2, high + 32, MIN, MAX};
    }

    // ---- texts

    static PinPlan told(String text) {
        PinPlan x = new PinPlan();
        Tape.put(x, text);
        if (x.plan() == NONE) {
            complain("FAULT " + x.fault(0) + " at " + x.fault(1) + " in a text that has none: " + text);
        }
        return x;
    }

    static void good(String text) {
        told(text);
    }

    /** A FAULT, at the sign ^, which is not of the text. */
    static void bad(int kind, String marked) {
        int place = marked.indexOf('^');
        PinPlan x = new PinPlan();
        Tape.put(x, marked.substring(0, place) + marked.substring(place + 1));
        int keys = x.plan();
        if (keys != NONE || x.fault(0) != kind || x.fault(1) != place) {
            complain("plan() answered " + keys + ", FAULT " + x.fault(0) + " at " + x.fault(1) + ", due is " + kind
                    + " at ^ in: " + marked);
        }
    }

    // ---- all that can be seen

    /** A plan in the midst of everything: ACTS to undo and to redo, two BOXES, TRIED, what lies there, a TAPE. */
    static PinPlan busy() {
        PinPlan x = told(FLAT);
        x.image(0);
        x.lose(3);
        x.image(2);
        x.walk(1, 0);
        x.part(2, 1, 1);
        x.undo();
        x.later(5);
        x.tried(0, true);
        x.later(3);
        x.tried(1, false);
        x.untell(0);
        x.later(2);
        x.route(0, 1);
        Tape.put(x, "room q;");
        return x;
    }

    /** A call answers this, and all is as if it had not been. */
    static void refused(String call, int want, Maker maker, Call made) {
        due(call, made.on(maker.make()), want);
        stays(call, maker, made);
    }

    /** The same behind other ACTS, of whatever a plan in the midst of everything answers to them. */
    static void refusedBehind(Call ahead, String call, int want, Call made) {
        refused(call, want, () -> {
            PinPlan x = busy();
            ahead.on(x);
            return x;
        }, made);
    }

    static void refused(String call, int want, Call made) {
        refused(call, want, Edge::busy, made);
    }

    /** Whatever a call answers, all is as if it had not been. */
    static void stays(String call, Maker maker, Call made) {
        staysButFault(call, maker, made);
        PinPlan x = maker.make();
        int before = x.fault(0) * 10000 + x.fault(1);
        made.on(x);
        due(call + ", then the FAULT", x.fault(0) * 10000 + x.fault(1), before);
    }

    static void staysButFault(String call, Maker maker, Call made) {
        alike(call, maker, () -> {
            PinPlan x = maker.make();
            made.on(x);
            return x;
        });
    }

    /** Two ways to come to the same: nothing tells them from one another. */
    static void alike(String call, Maker one, Maker other) {
        if (!history(one).equals(history(other))) {
            complain(call + " did not leave all as it was:\n  " + history(one) + "\n  " + history(other));
        }
    }

    /** Each part begins with a new object, for an object answers 512 calls. */
    private static String history(Maker maker) {
        StringBuilder all = new StringBuilder();
        PinPlan x = maker.make();
        all.append("now ").append(now(x));
        for (int i = 0; i < 3; i++) {
            all.append(" undo ").append(x.undo()).append(now(x));
        }
        x = maker.make();
        for (int i = 0; i < 3; i++) {
            all.append(" redo ").append(x.redo()).append(now(x));
        }
        for (int box = 0; box < 3; box++) {
            x = maker.make();
            all.append(" back ").append(x.back(box)).append(now(x));
        }
        x = maker.make();
        all.append(" plan ").append(x.plan()).append(x.fault(0)).append(x.fault(1)).append(now(x));
        return all.toString();
    }

    /** What can be asked without doing anything. */
    static String now(PinPlan x) {
        int[] about = new int[16];
        List<Integer> all = new ArrayList<>();
        for (int what = 0; what < about.length; what++) {
            about[what] = x.about(what);
            all.add(about[what]);
        }
        for (int l = 0; l < about[1]; l++) {
            all.addAll(List.of(x.lock(l, 2), x.lock(l, 3)));
        }
        for (int d = 0; d < about[3]; d++) {
            all.addAll(List.of(x.door(d, 0), x.door(d, 1), x.door(d, 2)));
        }
        for (int i = 0; i < about[15]; i++) {
            all.add(x.lies(i));
        }
        for (int k = 0; k <= about[12] && k <= 12; k++) {
            all.add(x.fits(k));
        }
        return acted(x) + all;
    }

    /** Many questions at once, few enough to be asked twice of one object. */
    static String answers(PinPlan x) {
        List<Integer> all = new ArrayList<>();
        for (int k = 0; k < 3; k++) {
            all.addAll(List.of(x.key(k, 3), x.twin(k), x.keeps(k), x.leftOver(k)));
            for (int l = 0; l < 3; l++) {
                all.addAll(List.of(x.filing(k, l, 0), x.filing(k, l, 1), x.lasts(k, l)));
            }
        }
        for (int l = 0; l < 4; l++) {
            all.addAll(List.of(x.lock(l, 1), x.ghosts(l), x.ghost(l, 0), x.ghost(l, 1), x.odds(l, 0), x.odds(l, 1)));
            all.addAll(List.of(x.common(1 << l, 0), x.common(1 << l, 1), x.cutFor(0, 1 << l), x.cutFor(1, 1 << l)));
        }
        for (int what = 0; what < 3; what++) {
            all.addAll(List.of(x.master(what), x.broken(what), x.strays(what), x.idle(what)));
            all.addAll(List.of(x.together(what), x.comers(what), x.person(what, 2), x.bunch(0, what, 1)));
            all.addAll(List.of(x.sure(what, 0), x.law(what), x.bitting(5 * what), x.rank(5 * what)));
        }
        for (int n = 0; n < 12; n++) {
            all.add(x.book(n));
        }
        all.addAll(List.of(x.blanks(), x.stuck(), x.barred(), x.haunted(), x.best(), x.fits(0), x.ask(0, 0), x.ask(1, 0)));
        all.addAll(List.of(x.legal(), x.sure(4, 0)));
        return all.toString();
    }

    /** What ACTS change. */
    static String acted(PinPlan x) {
        int keys = x.about(0);
        int locks = x.about(1);
        int people = x.about(4);
        int chambers = x.about(5);
        List<Integer> all = new ArrayList<>();
        for (int k = 0; k < keys; k++) {
            all.addAll(List.of(x.key(k, 0), x.key(k, 1), x.key(k, 2)));
        }
        for (int l = 0; l < locks; l++) {
            for (int c = 0; c < chambers; c++) {
                all.add(x.parts(l, c));
            }
        }
        for (int p = 0; p < people; p++) {
            all.add(x.person(p, 0));
        }
        all.add(x.about(8));
        return all.toString();
    }

    // ---- the end

    /** Ends the test: each sentence of the document must have been quoted, and each quote be of the document. */
    static void finish() throws IOException {
        Path document = Path.of("../shared/DOC.md");
        if (Files.exists(document)) {
            String text = Files.readString(document);
            String[] parts = text.substring(text.indexOf("## Terms"), text.indexOf("## Not promised")).split("## Promise ");
            section = TERMS;
            sentence = "all";
            due("how many promises", parts.length - 1, PROMISES);
            for (int i = 0; i < parts.length && i <= PROMISES; i++) {
                section = i;
                cover(i, parts[i]);
            }
        }
        System.out.println(wrong == 0 ? "all boundaries are as due" : wrong + " boundaries are not as due");
        if (wrong != 0) {
            System.exit(1);
        }
    }

    private static void cover(int number, String part) {
        String body = part.substring(part.indexOf('\n')).replaceAll("```(text)?|==== \\d\\.", " ");
        if (number != TERMS) {
            body = body.substring(body.indexOf("`:") + 2);
        }
        String left = " " + body.replaceAll("\\s+", " ").trim() + " ";
        for (String quote : quotes.get(number)) {
            int at = left.indexOf(" " + quote + " ");
            sentence = quote;
            if (at < 0) {
                complain("the document does not say so, or it is quoted twice");
            } else {
                left = left.substring(0, at) + " | " + left.substring(at + quote.length() + 2);
            }
        }
        sentence = left.replaceAll("[| ]+", " ").trim();
        if (!sentence.isEmpty()) {
            complain("no test says so");
        }
    }

    // ---- BITTINGS

    static int[] digits(int number, int chambers, int depths) {
        int[] cuts = new int[chambers];
        int left = number;
        for (int c = chambers - 1; c >= 0; c--) {
            cuts[c] = left % depths;
            left /= depths;
        }
        return cuts;
    }

    static boolean legal(int[] cuts, int step) {
        for (int c = 1; c < cuts.length; c++) {
            if (Math.abs(cuts[c] - cuts[c - 1]) > step) {
                return false;
            }
        }
        return true;
    }

    static int power(int base, int times) {
        int all = 1;
        for (int i = 0; i < times; i++) {
            all *= base;
        }
        return all;
    }

    static String repeated(String piece, int times) {
        return piece.repeat(Math.max(0, times));
    }
}
