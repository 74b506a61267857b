/** Each promise by hand: ordinary inputs, the edges that the document names, wrong inputs. */
public final class PromiseTest {
    private static final int NONE = PinPlan.NONE;
    private static final int MIN = Integer.MIN_VALUE;
    private static final int MAX = Integer.MAX_VALUE;

    // red 012 = 6, blue 110 = 20, old 321 = 57; of 64 bittings 50 are legal
    private static final String HOUSE = "chambers 3;depths 4;step 2;key red 0 1 2;key blue 1 1 0;key old 3 2 1;"
            + "lock front 0/1 1 2/0;lock back 1 1/2 0;lock vault 3 2 1/3;room hall;room study;room cellar;"
            + "door a from hall to study lock front;door b from study to cellar lock back;"
            + "door c from hall to cellar lock vault;person ann in hall holds red;person bob in study holds blue;"
            + "must red front;must blue front;must blue back;never red back;never old front;wear 30;draw 7;";

    // a chain of rooms with a shortcut; each lock is opened by the key of its number
    private static final String CHAIN = "chambers 2;depths 6;key a 0 0;key b 1 1;key c 2 2;key d 3 3;key m 4 4;"
            + "lock k 0/4 0/4;lock l 1 1;lock n 2/4 2/4;lock o 3 3;"
            + "room r;room s;room t;room u;room v;room w;"
            + "door e from r to s lock k;door f from s to t lock l;door g from t to u lock n;"
            + "door h from s to r lock k;door i from t to s lock l;door j from r to t lock o;"
            + "person p in r holds a d;person q in t holds b;person x in v holds c;";

    private static int wrong = 0;
    private static int promise = 0;

    private static void due(String call, int got, int want) {
        if (got != want) {
            wrong++;
            System.out.println("promise " + promise + ": " + call + " answered " + got + ", due is " + want);
        }
    }

    private static void due(String call, boolean got, boolean want) {
        due(call, got ? 1 : 0, want ? 1 : 0);
    }

    private static int tell(PinPlan x, String text) {
        Tape.put(x, text);
        return x.plan();
    }

    private static PinPlan told(String text) {
        PinPlan x = new PinPlan();
        due("plan() of " + text, tell(x, text) >= 0, true);
        return x;
    }

    public static void main(String[] args) {
        text();
        looks();
        walking();
        hands();
        cutting();
        undoing();
        bittings();
        lockQuestions();
        planQuestions();
        ways();
        beside();
        lasting();
        striking();
        trying();
        images();
        about();
        System.out.println(wrong == 0 ? "all promises are kept" : wrong + " answers are not as due");
        if (wrong != 0) {
            System.exit(1);
        }
    }

    private static void text() {
        promise = 1;
        PinPlan x = new PinPlan();
        int[] first = {0, 0, 0, 0, 0, 5, 6, 5, 0, 0, 0, 0, 0, 0, 0, 0};
        for (int i = 0; i < first.length; i++) {
            due("about " + i, x.about(i), first[i]);
        }
        due("legal", x.legal(), 7776);

        promise = 2;
        due("feed", x.feed(1, 2, 3, 4, 5), 20);
        for (int i = 2; i <= 80; i++) {
            due("feed", x.feed(-1, MIN, MAX, 0, i), 20 * i);
        }
        due("feed, full", x.feed(0, 0, 0, 0, 0), NONE);
        due("bytes", x.about(13), 1600);
        x.end(1581);
        due("feed, one too many", x.feed(0, 0, 0, 0, 0), NONE);
        x.end(1580);
        due("feed, just", x.feed(0, 0, 0, 0, 0), 1600);

        promise = 3;
        due("end, more", x.end(1601), NONE);
        due("end, below", x.end(-1), NONE);
        due("end, least", x.end(MIN), NONE);
        due("bytes", x.about(13), 1600);
        due("end, all", x.end(1600), 1600);
        due("end", x.end(7), 7);
        due("end, more than then", x.end(8), NONE);
        due("end", x.end(0), 0);
        // the highest byte comes first: "room", " a; "
        x.feed(0x726f6f6d, 0x20613b20, 0x726f6f6d, 0x20623b20, 0x20202020);
        due("plan", x.plan(), 0);
        due("rooms", x.about(2), 2);

        promise = 4;
        due("plan", tell(x, HOUSE), 3);
        due("the tape", x.about(13), 0);
        x.walk(0, 0);
        x.tried(0, true);
        x.later(5);
        x.image(1);
        x.route(1, 0);
        due("plan with a fault", tell(x, "key a;"), NONE);
        due("the tape stays", x.about(13), 6);
        due("keys stay", x.about(0), 3);
        due("acts stay", x.about(9), 1);
        due("tried stays", x.about(11), 1);
        due("what lies stays", x.about(15), 1);
        due("the seed stays", x.about(8), 30);
        due("undo", x.undo(), true);
        due("boxes stay", x.back(1), 0);
        x.undo();
        due("plan again", tell(x, HOUSE), 3);
        due("as told", x.key(0, 0), 6);
        due("seed", x.about(8), 7);
        due("no acts", x.about(9) + x.about(10), 0);
        due("nothing tried", x.about(11), 0);
        due("nothing lies", x.about(15), 0);
        due("boxes are empty", x.back(1), NONE);
        due("the time stays", x.about(12), 5);
        due("plan of nothing", x.plan(), 0);
        due("sizes again", x.about(5) * 100 + x.about(6) * 10 + x.about(7), 565);
        due("no must", x.lock(0, 2), NONE);

        promise = 5;
        PinPlan y = new PinPlan();
        due("fault at first", y.fault(0), 0);
        due("place at first", y.fault(1), NONE);
        tell(y, "room a;room a;");
        due("fault", y.fault(0), 3);
        due("place", y.fault(1), 12);
        due("fault 2", y.fault(2), NONE);
        due("fault -1", y.fault(-1), NONE);
        tell(y, "room a;");
        due("no fault", y.fault(0), 0);
        due("no place", y.fault(1), NONE);
    }

    private static void looks() {
        PinPlan x = told(HOUSE);
        promise = 6;
        due("number", x.key(1, 0), 20);
        due("used", x.key(1, 1), 0);
        due("holder", x.key(1, 2), 1);
        due("hook", x.key(2, 2), -1);
        due("locks", x.key(1, 3), 3);
        due("no key", x.key(3, 0), -3);
        due("no key", x.key(-1, 0), -3);
        due("no what", x.key(0, 4), -3);
        due("no what", x.key(0, -1), -3);
        x.lose(2);
        due("lost", x.key(2, 2), -2);
        due("lost ones open", x.key(2, 3), 4);

        promise = 7;
        due("cut", x.cut(0, 2), 2);
        due("cut", x.cut(2, 0), 3);
        due("no chamber", x.cut(0, 3), NONE);
        due("no chamber", x.cut(0, -1), NONE);
        due("no key", x.cut(3, 0), NONE);
        due("no key", x.cut(MIN, 0), NONE);

        promise = 8;
        due("parts", x.lock(0, 0), 5);
        due("keys", x.lock(0, 1), 3);
        due("a lost key", x.lock(2, 1), 4);
        due("must", x.lock(0, 2), 3);
        due("never", x.lock(0, 3), 4);
        due("never", x.lock(1, 3), 1);
        due("no rule", x.lock(2, 2) + x.lock(2, 3), 0);
        due("no lock", x.lock(3, 0), NONE);
        due("no what", x.lock(0, 4), NONE);
        due("no what", x.lock(0, -1), NONE);

        promise = 9;
        due("parts", x.parts(2, 2), 10);
        due("parts", x.parts(1, 1), 6);
        due("no chamber", x.parts(2, 3), NONE);
        due("no lock", x.parts(3, 0), NONE);
        due("no lock", x.parts(-1, 0), NONE);

        promise = 10;
        due("from", x.door(2, 0), 0);
        due("to", x.door(2, 1), 2);
        due("lock", x.door(2, 2), 2);
        due("no what", x.door(2, 3), NONE);
        due("no door", x.door(3, 0), NONE);
        due("no door", x.door(-1, 0), NONE);

        promise = 11;
        due("room", x.person(1, 0), 1);
        due("keys", x.person(1, 1), 2);
        due("reach", x.person(1, 2), 7);
        due("reach", x.person(0, 2), 3);
        due("no what", x.person(0, 3), NONE);
        due("nobody", x.person(2, 0), NONE);
        due("nobody", x.person(-1, 1), NONE);

        promise = 12;
        due("opens", x.opens(20, 0), 1);
        due("opens not", x.opens(20, 2), 0);
        due("not legal", x.opens(3, 0), NONE);
        due("no number", x.opens(64, 0), NONE);
        due("no number", x.opens(-1, 0), NONE);
        due("no number", x.opens(64 + 20, 0), NONE);
        due("no lock", x.opens(20, 3), NONE);
    }

    private static void walking() {
        promise = 13;
        PinPlan x = told(HOUSE);
        due("another room's door", x.walk(0, 1), NONE);
        due("no key", x.walk(0, 2), NONE);
        due("no door", x.walk(0, 3), NONE);
        due("nobody", x.walk(2, 0), NONE);
        due("nobody", x.walk(-1, -1), NONE);
        due("nothing done", x.about(8) * 10 + x.about(9), 70);
        // seed 7 * 137 + 71 = 1030: 30, chamber 0, 3 < 30: 012 wears to 112
        due("walk", x.walk(0, 0), 1);
        due("seed", x.about(8), 30);
        due("worn", x.key(0, 0), 22);
        due("used", x.key(0, 1), 1);
        due("room", x.person(0, 0), 1);
        due("act", x.about(9), 1);
        // seed 181: chamber 1, 18 < 30: 122
        due("back again", x.walk(0, 0), 0);
        due("worn", x.key(0, 0), 26);
        due("it opens no more", x.walk(0, 0), NONE);
        due("reach", x.person(0, 2), 1);
        // bob: seed 181 * 137 + 71 = 24868: 868, chamber 1, 86 is not less than 30
        due("bob", x.walk(1, 1), 2);
        due("not worn", x.key(1, 0), 20);
        due("used", x.key(1, 1), 1);

        // the first key that opens is used, held in whatever order
        PinPlan y = told("chambers 2;key a 1 1;key b 0 0;key c 0 0;lock l 0 0;room x;room y;"
                + "door d from x to y lock l;person p in y holds c b a;");
        due("walk", y.walk(0, 0), 0);
        due("used", y.key(0, 1) * 100 + y.key(1, 1) * 10 + y.key(2, 1), 10);

        // what a use wears: by cut, beside, uses, chamber; not beyond the step, not beyond the depths
        wears("(cut = 1 and beside = 2 and uses = 0 and chamber = 1) * 100", "0 1 2", 1);
        wears("100", "0 1 2", 1);
        wears("19", "0 1 2", 1);
        wears("18", "0 1 2", 0);
        wears("0 - 1", "0 1 2", 0);
        wears("not 0 * 19", "0 1 2", 0);
        wears("19 / 0 + 18", "0 1 2", 0);
        wears("5 % 0 + 18", "0 1 2", 0);
        wears("(2 or 0) + 18", "0 1 2", 1);
        wears("(2 < 3) + (3 > 2) + (2 = 2) + 16", "0 1 2", 1);
        wears("(3 < 3) + (3 > 3) + (2 = 3) + 18", "0 1 2", 0);
        wears("(2 and 3) + (0 and 1) + (0 or 0) + (not 5) + 18", "0 1 2", 1);
        wears("(not 1 < 0) * 19", "0 1 2", 1);
        wears("(1 or 0 and 0) * 19", "0 1 2", 1);
        wears("7 * 7 / 2 - 5 % 10", "0 1 2", 1);
        wears("7 * 7 / 2 - 5 - 1 % 10", "0 1 2", 0);
        wears("0 - 7 / 2 + 22", "0 1 2", 1);
        wears("(0 - 7) % 4 + 21", "0 1 2", 0);
        wears("(0 - 7) % 4 + 22", "0 1 2", 1);
        // 2 to the 31st is below 0, and 1 less than that is above
        wears("(2048 * 1024 * 1024 < 0) * 19", "0 1 2", 1);
        wears("(2048 * 1024 * 1024 - 1 > 0) * 19", "0 1 2", 1);
        wears("(2048 * 1024 * 1024 / (0 - 1) < 0) * 19", "0 1 2", 1);
        // all that a formula may have: each of 28 with six nots ahead of it, within brackets
        String long28 = "(not not not not not not 1" + " and not not not not not not 1".repeat(27) + ") * 19";
        wears(long28, "0 1 2", 1);
        wears(long28.replace("not 1)", "not 0)"), "0 1 2", 0);
        wears("100", "0 2 2", 0);
        wears("100", "1 2 2", 1);
        wears("100", "3 3 3", 0);
        longest();
    }

    /** Thirty units with seven nots each, all that a formula may have: 1, or 0 if one of them is another one. */
    private static void longest() {
        String formula = "not not not not not not not 0" + " and not not not not not not not 0".repeat(29);
        String text = "chambers 2;key a 0 0;lock l 0 0;draw 36;wear ";
        PinPlan x = told(text + formula + ";");
        due("units", x.about(14), 30);
        // 36 * 137 + 71 = 5003: 3, and 0 < 1
        due("worn at once", x.lasts(0, 0), 1);
        due("not worn", told(text + formula.replaceAll("0$", "1;")).lasts(0, 0), NONE);
        due("not worn", told(text + formula.replaceFirst("0", "1") + ";").lasts(0, 0), NONE);
    }

    /** Whether a use at the seed 30 (181 then: the second chamber of three, 18) wears a key; step 2, depths 4. */
    private static void wears(String formula, String cuts, int is) {
        PinPlan x = told("chambers 3;depths 4;step 2;key a " + cuts + ";lock l 0/1/2/3 0/1/2/3 0/1/2/3;room x;room y;"
                + "door d from x to y lock l;person p in x holds a;draw 30;wear " + formula + ";");
        int before = x.cut(0, 1);
        due("walk", x.walk(0, 0), 1);
        due("wear by " + formula + " of " + cuts, x.cut(0, 1) - before, is);
        due("used", x.key(0, 1), 1);
    }

    private static void hands() {
        promise = 14;
        PinPlan x = told(HOUSE);
        due("in another room", x.give(0, 1), -3);
        due("has it", x.give(0, 0), -3);
        due("from the hook", x.give(2, 1), -1);
        due("holder", x.key(2, 2), 1);
        due("no key", x.give(3, 0), -3);
        due("nobody", x.give(0, 2), -3);
        due("nobody", x.give(2, -1), -3);
        x.walk(0, 0);
        due("in one room", x.give(0, 1), 0);
        due("bob holds", x.person(1, 1), 7);
        due("acts", x.about(9), 3);
        x.lose(0);
        due("lost", x.give(0, 1), -3);

        promise = 15;
        due("hang", x.hang(1), 1);
        due("hook", x.key(1, 2), -1);
        due("hangs there", x.hang(1), -3);
        due("lost", x.hang(0), -3);
        due("no key", x.hang(3), -3);
        due("no key", x.hang(-1), -3);

        promise = 16;
        due("lose from the hook", x.lose(1), -1);
        due("lose", x.lose(2), 1);
        due("lost", x.lose(2), -3);
        due("no key", x.lose(3), -3);
        due("no key", x.lose(MIN), -3);

        promise = 17;
        due("find", x.find(2, 0), 1);
        due("find", x.find(0, 0), 2);
        due("holder", x.key(0, 2), 0);
        due("not lost", x.find(0, 1), NONE);
        due("nobody", x.find(1, 2), NONE);
        due("no key", x.find(3, 0), NONE);
    }

    private static void cutting() {
        promise = 18;
        PinPlan x = told(HOUSE);
        due("file", x.file(0, 0), 1);
        due("number", x.key(0, 0), 22);
        due("not below depths", x.file(2, 0), NONE);
        due("file", x.file(0, 2), 3);
        due("file", x.file(1, 2), 1);
        due("file", x.file(0, 0), 2);
        due("file", x.file(0, 0), 3);
        due("number", x.key(0, 0), 55);
        due("below depths, but not legal", told("chambers 2;step 1;key a 0 1;").file(0, 1), NONE);
        due("no chamber", x.file(0, 3), NONE);
        due("no key", x.file(3, 0), NONE);
        due("a lost one is filed, too", x.lose(1) + x.file(1, 1), 3);
        due("used stays", told(HOUSE).key(0, 1), 0);

        promise = 19;
        PinPlan y = told(HOUSE);
        y.walk(0, 0);
        due("recut", y.recut(0, 63), 22);
        due("number", y.key(0, 0), 63);
        due("used", y.key(0, 1), 0);
        due("the same", y.recut(0, 63), 63);
        due("an act", y.about(9), 3);
        due("not legal", y.recut(0, 3), NONE);
        due("no number", y.recut(0, 64), NONE);
        due("no number", y.recut(0, -1), NONE);
        due("no key", y.recut(3, 0), NONE);
        due("nothing done", y.about(9), 3);

        promise = 20;
        PinPlan z = told(HOUSE);
        due("pin for one", z.pin(0, 4), 3);
        due("parts", z.parts(0, 0) * 10000 + z.parts(0, 1) * 100 + z.parts(0, 2), 80402);
        due("pin for two", z.pin(0, 3), 5);
        due("parts", z.parts(0, 0) * 10000 + z.parts(0, 1) * 100 + z.parts(0, 2), 30205);
        due("pin for three", z.pin(0, 7), 8);
        due("none", z.pin(0, 0), NONE);
        due("no key", z.pin(0, 8), NONE);
        due("no key", z.pin(0, -1), NONE);
        due("no key", z.pin(0, MIN | 1), NONE);
        due("no lock", z.pin(3, 1), NONE);
        due("acts", z.about(9), 3);

        promise = 21;
        PinPlan p = told(HOUSE);
        due("put in", p.part(2, 0, 0), 9);
        due("taken out", p.part(2, 0, 3), 1);
        due("the only one", p.part(2, 0, 0), NONE);
        due("no depth", p.part(2, 0, 4), NONE);
        due("no depth", p.part(2, 0, -1), NONE);
        due("no chamber", p.part(2, 3, 0), NONE);
        due("no lock", p.part(3, 0, 0), NONE);
        due("acts", p.about(9), 2);
        due("parts", p.lock(2, 0), 4);
    }

    private static void undoing() {
        promise = 22;
        PinPlan x = told(HOUSE);
        due("none", x.undo(), false);
        x.walk(0, 0);
        due("undo", x.undo(), true);
        due("room", x.person(0, 0), 0);
        due("cut", x.key(0, 0), 6);
        due("used", x.key(0, 1), 0);
        due("seed", x.about(8), 7);
        due("none", x.undo(), false);
        due("redone", x.about(10), 1);

        promise = 23;
        due("redo", x.redo(), true);
        due("room", x.person(0, 0), 1);
        due("cut", x.key(0, 0), 22);
        due("seed", x.about(8), 30);
        due("none", x.redo(), false);
        x.lose(2);
        x.hang(1);
        x.undo();
        x.undo();
        due("two", x.about(10), 2);
        due("what does nothing", x.walk(0, 2), NONE);
        due("two still", x.about(10), 2);
        due("taken back last", x.redo(), true);
        due("lost", x.key(2, 2), -2);
        due("held", x.key(1, 2), 1);
        x.file(1, 0);
        due("till another act", x.redo(), false);
        due("acts", x.about(9), 3);

        // forty are kept
        PinPlan y = told(HOUSE);
        for (int i = 0; i < 43; i++) {
            y.part(2, i % 3, 0);
        }
        due("kept", y.about(9), 40);
        int undone = 0;
        while (undone < 100 && y.undo()) {
            undone++;
        }
        due("undone", undone, 40);
        due("the oldest went", y.parts(2, 0) * 100 + y.parts(2, 1) * 10 + y.parts(2, 2), 9 * 100 + 5 * 10 + 11);
        due("redoable", y.about(10), 40);
        int redone = 0;
        while (redone < 100 && y.redo()) {
            redone++;
        }
        due("redone", redone, 40);
        // put in and taken out by turns: 15 times in the first chamber, 14 in each other one
        due("as it was", y.parts(2, 0) * 100 + y.parts(2, 1) * 10 + y.parts(2, 2), 9 * 100 + 4 * 10 + 10);
    }

    private static void bittings() {
        PinPlan x = told(HOUSE);
        promise = 24;
        due("legal", x.legal(), 50);
        due("step 0", told("chambers 2;depths 2;step 0;").legal(), 2);
        due("step 1", told("chambers 5;depths 6;step 1;").legal(), 340);

        promise = 25;
        due("first", x.bitting(0), 0);
        due("4th", x.bitting(3), 4);
        due("last", x.bitting(49), 63);
        due("behind the last", x.bitting(50), NONE);
        due("below", x.bitting(-1), NONE);
        due("most", x.bitting(MAX), NONE);

        promise = 26;
        for (int i = 0; i < 50; i++) {
            due("rank of bitting " + i, x.rank(x.bitting(i)), i);
        }
        due("not legal", x.rank(3), NONE);
        due("no number", x.rank(64), NONE);
        due("no number", x.rank(-1), NONE);
    }

    private static void lockQuestions() {
        PinPlan x = told(HOUSE);
        promise = 27;
        // front: 010, 012, 110, 112, of which red and blue have two
        due("ghosts", x.ghosts(0), 2);
        due("no lock", x.ghosts(3), NONE);
        due("no lock", x.ghosts(-1), NONE);
        x.lose(0);
        due("lost ones are keys", x.ghosts(0), 2);
        x.recut(2, 6);
        due("two alike", x.ghosts(0), 2);
        x.recut(2, 4);
        due("one less", x.ghosts(0), 1);
        x.undo();
        x.undo();
        x.undo();

        promise = 28;
        due("ghost", x.ghost(0, 0), 4);
        due("ghost", x.ghost(0, 1), 22);
        due("none", x.ghost(0, 2), NONE);
        due("none", x.ghost(0, -1), NONE);
        due("none", x.ghost(0, MAX), NONE);
        due("no lock", x.ghost(3, 0), NONE);
        PinPlan w = told("chambers 2;depths 3;key a 0 0;key b 0 1;key c 0 2;key d 1 0;key e 1 1;key f 1 2;key g 2 0;"
                + "key h 2 1;lock l 0/1/2 0/1/2;");
        due("behind eight keys", w.ghost(0, 0), 8);
        due("one", w.ghosts(0), 1);
        w.recut(3, 0);
        due("in between", w.ghost(0, 0), 3);
        due("behind", w.ghost(0, 1), 8);

        promise = 29;
        due("both", x.common(3, 0), 1);
        due("both", x.common(3, 1), 20);
        due("none", x.common(5, 0), 0);
        due("none", x.common(5, 1), NONE);
        due("of no lock", x.common(0, 0), 50);
        due("of no lock", x.common(0, 1), 0);
        due("no such locks", x.common(8, 0), NONE);
        due("no such locks", x.common(-1, 0), NONE);
        due("no what", x.common(1, 2), NONE);

        promise = 30;
        due("master", x.master(0), 20);
        due("master", x.master(1), 2);
        due("master", x.master(2), 3);
        due("no what", x.master(3), NONE);
        due("no what", x.master(-1), NONE);
        PinPlan y = told("chambers 2;depths 3;step 2;lock a 2 2;lock b 1 0;lock c 2 0;");
        due("of like ones the least", y.master(0) * 10 + y.master(2), 32);

        promise = 31;
        due("one", x.cutFor(1, 0), 4);
        due("one and not the other", x.cutFor(1, 2), 4);
        due("the other", x.cutFor(2, 1), 24);
        due("none of them", x.cutFor(0, 7), 0);
        due("both ways", x.cutFor(1, 1), NONE);
        due("all", x.cutFor(7, 0), NONE);
        due("no such locks", x.cutFor(8, 0), NONE);
        due("no such locks", x.cutFor(0, 8), NONE);
        due("no such locks", x.cutFor(MIN, 0), NONE);

        promise = 32;
        due("no filing needed", x.filing(0, 0, 0), 0);
        due("no filing needed", x.filing(0, 0, 1), 6);
        // 110 to 321 or 323
        due("filing", x.filing(1, 2, 0), 4);
        due("filing", x.filing(1, 2, 1), 57);
        due("too deep already", x.filing(2, 0, 0), NONE);
        due("too deep already", x.filing(2, 0, 1), NONE);
        due("no what", x.filing(0, 0, 2), NONE);
        due("no key", x.filing(3, 0, 0), NONE);
        due("no lock", x.filing(0, 3, 0), NONE);
        // 00 to 01; without that depth to 12, for 02 is out of the step
        PinPlan z = told("chambers 2;depths 4;step 1;key k 0 0;lock l 0/1/2 1/2/3;");
        due("least", z.filing(0, 0, 0) * 100 + z.filing(0, 0, 1), 101);
        z.part(0, 1, 1);
        due("least", z.filing(0, 0, 0) * 100 + z.filing(0, 0, 1), 306);
    }

    private static void planQuestions() {
        promise = 33;
        PinPlan x = told(HOUSE);
        due("kept", x.broken(0), 0);
        due("nowhere", x.broken(1), NONE);
        due("nowhere", x.broken(2), NONE);
        due("no what", x.broken(3), NONE);
        due("no what", x.broken(-1), NONE);
        // back for red alone: blue must and does not, red never may and does
        x.pin(1, 1);
        due("broken", x.broken(0), 2);
        due("key", x.broken(1), 0);
        due("lock", x.broken(2), 1);
        x.undo();
        x.pin(0, 4);
        due("broken", x.broken(0), 3);
        due("key", x.broken(1) * 10 + x.broken(2), 0);

        promise = 34;
        PinPlan y = told(HOUSE);
        due("no strays", y.strays(0), 0);
        due("nowhere", y.strays(1) + y.strays(2), -2);
        due("no what", y.strays(3), NONE);
        // front pinned for 012 and 110 lets 112 in, however it is pinned now
        y.recut(2, 22);
        y.pin(0, 1);
        due("stray", y.strays(0), 1);
        due("key", y.strays(1), 2);
        due("lock", y.strays(2), 0);
        due("not broken by it", y.broken(0) * 100 + y.broken(1) * 10 + y.broken(2), 110);
        // a lock for which no key must is as it is
        PinPlan n = told("chambers 2;key a 0 0;lock l 0 0;never a l;");
        due("stray", n.strays(0), 1);
        n.part(0, 0, 1);
        n.part(0, 0, 0);
        due("no more", n.strays(0), 0);

        promise = 35;
        due("the least", told(HOUSE).keeps(0), 0);
        due("the least", told(HOUSE).keeps(2), 0);
        // while old is 112: it is let in by 012 and 110; red so that it is not: 0 0 0 leaves 110 and 000
        due("the least", y.keeps(0), 0);
        due("the least of old", y.keeps(2), 0);
        PinPlan k = told("chambers 2;depths 2;key a 0 0;key b 0 1;lock l 0 0;must a l;never b l;");
        due("the least that is not let in", k.keeps(1), 1);
        due("the least that lets nothing in", k.keeps(0), 0);
        PinPlan h = told("chambers 2;depths 2;step 0;key a 0 0;key b 0 0;key c 1 1;lock l 0 0;lock m 1 1;"
                + "must a l;never b l;never c m;");
        due("another one strays anyway", h.keeps(0), NONE);
        due("no such key", h.keeps(3), NONE);
        due("no such key", h.keeps(-1), NONE);

        promise = 36;
        // back: blue alone must; front: red by blue, blue by red
        PinPlan l = told(HOUSE);
        due("left over", l.leftOver(0), 0);
        due("left over of one that need not", l.leftOver(2), 0);
        l.recut(2, 20);
        due("it is like blue: back; front by 012 and 110, too", l.leftOver(2), 3);
        l.recut(0, 20);
        due("like the other one", l.leftOver(1), 1);
        due("no such key", l.leftOver(3), NONE);
        due("no such key", l.leftOver(-1), NONE);
    }

    private static void ways() {
        PinPlan x = told(CHAIN);
        promise = 37;
        due("there", x.route(0, 0), 0);
        due("nothing lies", x.lies(0), -2);
        due("one door", x.route(0, 2), 1);
        due("it", x.lies(0), 5);
        due("behind it", x.lies(1), -2);
        due("the first of like ones", x.route(0, 1), 1);
        due("it", x.lies(0), 0);
        due("no way", x.route(0, 3), NONE);
        due("nothing lies", x.about(15), 0);
        x.route(0, 1);
        due("no room", x.route(0, 6), NONE);
        due("nothing lies", x.about(15), 0);
        x.route(0, 1);
        due("nobody", x.route(3, 0), NONE);
        due("nothing lies", x.about(15), 0);
        x.hang(3);
        due("no way", x.route(0, 2), NONE);
        x.hang(1);
        x.give(1, 0);
        due("two doors", x.route(0, 2), 2);
        due("they", x.lies(0) * 10 + x.lies(1), 1);

        PinPlan y = told(CHAIN);
        promise = 38;
        due("both are one", y.bunch(5, 5, 0), 0);
        due("both are one", y.bunch(5, 5, 1), 0);
        due("one", y.bunch(0, 2, 0), 1);
        due("one", y.bunch(0, 2, 1), 8);
        due("of a and m the least", y.bunch(0, 1, 1), 1);
        due("two: c d, not m d, not a b c", y.bunch(3, 0, 1), 12);
        due("none", y.bunch(0, 4, 0), NONE);
        due("none", y.bunch(0, 4, 1), NONE);
        due("no what", y.bunch(0, 1, 2), NONE);
        due("no room", y.bunch(0, 6, 0), NONE);
        due("no room", y.bunch(-1, 0, 0), NONE);
        y.lose(3);
        due("without the lost one: b m", y.bunch(3, 0, 1), 18);
        due("two", y.bunch(3, 0, 0), 2);
        y.lose(0);
        due("m", y.bunch(0, 1, 1), 16);

        PinPlan z = told(CHAIN);
        promise = 39;
        due("alone", z.person(0, 2) * 100 + z.person(1, 2), 706);
        due("together", z.together(0), 7);
        due("together", z.together(1), 7);
        due("far off", z.together(2), 16);
        due("nobody", z.together(3), NONE);
        due("nobody", z.together(-1), NONE);
        // what is handed on opens the way to a third one
        PinPlan t = told("chambers 2;key a 0 0;key b 1 1;key c 2 2;lock k 0 0;lock l 1 1;lock m 2 2;"
                + "room r;room s;room t;room u;door d from r to s lock k;door e from s to t lock l;"
                + "door f from t to u lock m;person p in r holds a;person q in s holds b;person x in u holds c;");
        due("alone", t.person(0, 2) * 10000 + t.person(1, 2) * 100 + t.person(2, 2), 30000 + 600 + 12);
        due("all", t.together(0) * 10000 + t.together(1) * 100 + t.together(2), 151515);
        due("nothing is done", t.person(0, 1), 1);

        promise = 40;
        due("comers", z.comers(0), 1);
        due("comers", z.comers(1), 3);
        due("comers", z.comers(4), 4);
        due("nobody", z.comers(3), 0);
        due("no room", z.comers(6), NONE);
        due("no room", z.comers(-1), NONE);

        promise = 41;
        // each holds what the other one needs
        PinPlan e = told("chambers 2;key a 0 0;key b 1 1;key c 2 2;key d 2 2;lock k 0 0;lock l 1 1;room r;room s;"
                + "room t;room u;door d from r to s lock k;door e from t to u lock l;"
                + "person p in r holds c b;person q in t holds a d;person x in s;");
        due("the one's", e.trade(0, 1, 0), 1);
        due("the other one's", e.trade(0, 1, 1), 0);
        due("the other way", e.trade(1, 0, 0) * 10 + e.trade(1, 0, 1), 1);
        due("both are one", e.trade(0, 0, 0), NONE);
        due("nothing to exchange", e.trade(0, 2, 0), NONE);
        due("no what", e.trade(0, 1, 2), NONE);
        due("no what", e.trade(0, 1, -1), NONE);
        due("nobody", e.trade(0, 3, 0), NONE);
        due("nobody", e.trade(-1, 0, 0), NONE);
        due("nobody", e.trade(0, -1, 0), NONE);
        due("one would come less far", z.trade(0, 1, 0), NONE);
    }

    private static void beside() {
        PinPlan x = told(HOUSE);
        promise = 42;
        due("span", x.span(0, 1), 3);
        due("span", x.span(1, 0), 3);
        due("span", x.span(0, 2), 5);
        due("itself", x.span(1, 1), 0);
        due("no key", x.span(0, 3), NONE);
        due("no key", x.span(-1, 0), NONE);

        promise = 43;
        due("twin", x.twin(0), 1);
        due("twin", x.twin(1), 0);
        due("of like ones the first", x.twin(2), 1);
        x.recut(1, 6);
        due("of like ones the first", x.twin(2), 0);
        due("no key", x.twin(3), NONE);
        due("no other one", told("chambers 2;key a 0 0;").twin(0), NONE);

        promise = 44;
        PinPlan y = new PinPlan();
        due("book", y.book(0), 0);
        due("book", y.book(1), 7);
        due("book", y.book(5), 35);
        due("book", y.book(6), 37);
        due("book", y.book(7), 42);
        due("book", y.book(59) >= 0, true);
        due("no more", y.book(60), NONE);
        due("below", y.book(-1), NONE);
        PinPlan z = told("chambers 2;depths 3;step 1;");
        due("00, 11, 22", z.book(0) * 100 + z.book(1) * 10 + z.book(2), 48);
        due("none such", z.book(3), NONE);
    }

    private static void lasting() {
        promise = 45;
        PinPlan x = told(HOUSE);
        due("lasts", x.lasts(0, 0), 2);
        due("it does not open now", x.lasts(0, 1), 0);
        due("no key", x.lasts(3, 0), NONE);
        due("no lock", x.lasts(0, 3), NONE);
        due("nothing is worn", x.key(0, 0) * 1000 + x.about(8), 6007);
        due("without wear", told("chambers 2;key a 0 0;lock l 0 0;").lasts(0, 0), NONE);
        // seeds 71, 798, 397, 460, 91, ..: the first wear is at the use whose number is told
        due("200", told("chambers 2;key a 0 0;lock l 0 0;wear (uses = 199) * 100;").lasts(0, 0), 200);
        due("more", told("chambers 2;key a 0 0;lock l 0 0;wear (uses = 200) * 100;").lasts(0, 0), NONE);
        due("1", told("chambers 2;key a 0 0;lock l 0 0;wear 100;").lasts(0, 0), 1);
        due("used counts", told("chambers 2;key a 0 0;lock l 0 0;wear (uses > 4) * 100;").lasts(0, 0), 6);
    }

    private static void striking() {
        PinPlan x = told(HOUSE);
        promise = 46;
        // front 4, back 2 (one of them in front, too), vault 2
        due("blanks", x.blanks(), 50 - 7);
        due("all", told("chambers 2;").blanks(), 36);

        promise = 47;
        due("none", x.stuck(), 0);
        x.lose(2);
        due("vault", x.stuck(), 4);
        x.lose(1);
        due("back, vault", x.stuck(), 6);
        due("no key at all", told("chambers 2;lock l 0 0;").stuck(), 1);

        promise = 48;
        PinPlan y = told(CHAIN);
        due("barred", y.barred(), 8 + 32);
        y.hang(0);
        y.hang(3);
        due("barred", y.barred(), 8 + 32);
        due("without people", told("room a;room b;").barred(), 3);

        promise = 49;
        // ghosts 2, 1, 1
        due("haunted", told(HOUSE).haunted(), 0);
        PinPlan z = told(HOUSE);
        z.part(2, 2, 2);
        z.part(2, 1, 1);
        due("vault", z.haunted(), 2);
        due("of like ones the first", told("chambers 2;lock a 0 0;lock b 1 1;").haunted(), 0);
        due("no locks", told("chambers 2;").haunted(), NONE);

        promise = 50;
        due("best", told(HOUSE).best(), 1);
        due("of like ones the first", told("chambers 2;key a 0 0;key b 1 1;lock l 0/1 0/1;").best(), 0);
        due("no keys", told("chambers 2;").best(), NONE);

        promise = 51;
        due("lost", x.idle(1), 6);
        due("hook", x.idle(0), 0);
        x.hang(0);
        due("hook", x.idle(0), 1);
        due("no what", x.idle(2), NONE);
        due("no what", x.idle(-1), NONE);

        promise = 52;
        due("law", x.law(0), 4);
        due("law", x.law(1), 26);
        due("law", x.law(2), 50);
        due("law", x.law(5), 64);
        due("none", x.law(6), NONE);
        due("none", x.law(-1), NONE);

        promise = 53;
        // 4 of 50
        due("upper", x.odds(0, 0), 2);
        due("lower", x.odds(0, 1), 25);
        due("no part", x.odds(0, 2), NONE);
        due("no part", x.odds(0, -1), NONE);
        due("no lock", x.odds(3, 0), NONE);
        PinPlan n = told("chambers 2;depths 3;step 0;lock l 0 1;lock m 0/1/2 0/1/2;");
        due("0 of 1", n.odds(0, 0) * 10 + n.odds(0, 1), 1);
        due("1 of 1", n.odds(1, 0) * 10 + n.odds(1, 1), 11);

        promise = 54;
        PinPlan r = told(CHAIN);
        due("nothing", r.lies(0), -2);
        r.route(0, 1);
        due("a door", r.lies(0), 0);
        due("below", r.lies(-1), -2);
        due("behind", r.lies(1), -2);
        due("far behind", r.lies(MAX), -2);
        r.hang(0);
        due("it stays", r.lies(0), 0);
    }

    private static void trying() {
        promise = 55;
        PinPlan x = told(HOUSE);
        due("tried", x.tried(0, true), 0);
        due("tried", x.tried(1, false), 1);
        due("no lock", x.tried(3, true), NONE);
        due("no lock", x.tried(-1, false), NONE);
        PinPlan y = told(HOUSE);
        for (int i = 0; i < 30; i++) {
            due("tried", y.tried(i % 3, false), i);
        }
        y.untell(3);
        due("there are 30", y.tried(0, false), NONE);
        due("about", y.about(11), 30);

        promise = 56;
        due("untell", x.untell(1), true);
        due("so already", x.untell(1), false);
        due("none such", x.untell(2), false);
        due("none such", x.untell(-1), false);

        promise = 57;
        due("later", x.later(0), 0);
        due("later", x.later(1000), 1000);
        due("too far", x.later(1001), NONE);
        due("back", x.later(-1), NONE);
        due("least", x.later(MIN), NONE);
        for (int i = 2; i <= 99; i++) {
            due("later", x.later(1000), 1000 * i);
        }
        due("later", x.later(999), 99999);
        due("too late", x.later(2), NONE);
        due("just", x.later(1), 100000);
        due("too late", x.later(1), NONE);
        due("time", x.about(12), 100000);

        promise = 58;
        PinPlan z = told(HOUSE);
        z.later(10);
        z.tried(0, true);
        z.later(10);
        z.tried(1, false);
        z.later(10);
        z.untell(0);
        due("before", z.fits(9), 50);
        due("then", z.fits(10), 4);
        due("still", z.fits(19), 4);
        due("and not the other", z.fits(20), 3);
        due("still", z.fits(29), 3);
        due("not the other alone", z.fits(30), 48);
        due("for ever", z.fits(MAX), 48);
        due("never", z.fits(MIN), 50);
        z.pin(0, 4);
        due("as told in the text", z.fits(10), 4);
        z.tried(1, true);
        due("against itself", z.fits(30), 0);

        promise = 59;
        // 010, 012, 110, 112; without 110
        due("the same", z.sure(1, 10), 1);
        due("not the same", z.sure(0, 10), -2);
        due("not the same", z.sure(2, 20), -2);
        due("no chamber", z.sure(3, 10), NONE);
        due("no chamber", z.sure(-1, 10), NONE);
        due("none fits", z.sure(0, 30), NONE);

        promise = 60;
        // of 50: front 4, back 2, vault 2; of the 4: front 4, back 1, vault 0
        due("lock", z.ask(0, 0), 0);
        due("left", z.ask(1, 0), 46);
        due("lock", z.ask(0, 10), 1);
        due("left", z.ask(1, 10), 3);
        due("none fits", z.ask(0, 30), NONE);
        due("none fits", z.ask(1, 30), NONE);
        due("no what", z.ask(2, 0), NONE);
        due("no what", z.ask(-1, 0), NONE);
        due("no locks", new PinPlan().ask(1, 0), NONE);
        // untold at the time at which it was told
        PinPlan u = told(HOUSE);
        u.tried(0, true);
        u.untell(0);
        due("at once", u.fits(0), 50);
        // of like ones the first
        due("like", told("chambers 2;lock a 0 0;lock b 1 1;").ask(0, 0), 0);
    }

    private static void images() {
        promise = 61;
        PinPlan x = told(HOUSE);
        due("image", x.image(0), 0);
        x.lose(2);
        due("image", x.image(2), 1);
        due("none such", x.image(3), NONE);
        due("none such", x.image(-1), NONE);
        due("no act", x.about(9), 1);
        x.walk(0, 0);
        x.pin(1, 2);
        x.tried(0, true);
        x.later(3);

        promise = 62;
        due("nothing was", x.back(1), NONE);
        due("none such", x.back(3), NONE);
        due("none such", x.back(-1), NONE);
        x.undo();
        due("acts", x.about(9) * 10 + x.about(10), 21);
        due("back", x.back(0), 0);
        due("no acts", x.about(9) * 10 + x.about(10), 0);
        due("holder", x.key(2, 2), -1);
        due("cuts", x.key(0, 0), 6);
        due("used", x.key(0, 1), 0);
        due("room", x.person(0, 0), 0);
        due("lock", x.lock(1, 0), 4);
        due("seed", x.about(8), 7);
        due("tried stays", x.about(11) * 10 + x.about(12), 13);
        due("the other one", x.back(2), 1);
        due("lost", x.key(2, 2), -2);
        x.find(2, 0);
        due("again", x.back(2), 1);
        due("lost", x.key(2, 2), -2);
    }

    private static void about() {
        promise = 63;
        PinPlan x = told(HOUSE);
        x.walk(0, 0);
        x.lose(2);
        x.undo();
        x.tried(0, false);
        x.later(17);
        x.feed(0, 0, 0, 0, 0);
        x.route(1, 0);
        int[] all = {3, 3, 3, 3, 2, 3, 4, 2, 30, 1, 1, 1, 17, 20, 1, 1};
        for (int i = 0; i < all.length; i++) {
            due("about " + i, x.about(i), all[i]);
        }
        due("about 16", x.about(16), NONE);
        due("about -1", x.about(-1), NONE);
        due("about", x.about(MIN), NONE);
        due("units, a bracket is one", told("wear (1 + cut) * 2;").about(14), 4);
        due("no wear", told("draw 3;").about(14), 0);
        due("draw", told("draw 3;").about(8), 3);
    }
}
