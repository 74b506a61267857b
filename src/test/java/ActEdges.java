/** ACTS, UNDO and REDO (==== 2), the promises 13 to 23, and the images, 61 and 62, sentence by sentence. */
final class ActEdges {
    private static final int NONE = PinPlan.NONE;
    private static final int MIN = Integer.MIN_VALUE;
    private static final int MAX = Integer.MAX_VALUE;
    private static final int REFUSED = -3;
    private static final int KEYS = 4;
    private static final int LOCKS = 3;
    private static final int DOORS = 3;
    private static final int PEOPLE = 3;
    private static final int CHAMBERS = 3;
    private static final int DEPTHS = 4;

    /** Each sort of ACT, possible in the midst of everything. */
    private static final String[] ACT_NAMES = {"walk", "give from one", "give from the HOOK", "hang", "lose", "find", "file",
        "recut", "pin", "put in", "take out"};
    private static final Edge.Call[] ACTS = {x -> x.walk(0, 0), x -> x.give(0, 1), x -> x.give(2, 2), x -> x.hang(1),
        x -> x.lose(0), x -> x.find(3, 2), x -> x.file(2, 1), x -> x.recut(1, 63), x -> x.pin(1, 5),
        x -> x.part(0, 0, 3), x -> x.part(0, 0, 1)};

    private ActEdges() {
    }

    static void all() {
        Edge.promise(0);
        walkTerms();
        otherTerms();
        undoTerms();
        redoTerms();
        keptTerms();
        walk();
        give();
        hang();
        lose();
        find();
        file();
        recut();
        pin();
        part();
        undoAndRedo();
        image();
        back();
    }

    private static boolean can(Edge.Call act, PinPlan x) {
        int before = x.about(9);
        act.on(x);
        return x.about(9) == before + 1;
    }

    // ---- the Terms

    private static void walkTerms() {
        Edge.says("ACTS: one walks through a DOOR of the ROOM in which he is into its other ROOM, "
                + "if one of the KEYS that he holds OPENS its LOCK (a USE of the first of these);");
        String house = "chambers 2;key a 1 1;key b 0 0;key c 0 0;lock l 0 0;lock m 5 5;room x;room y;room z;"
                + "door d from x to y lock l;door e from y to z lock l;door f from x to z lock m;person p in ";
        PinPlan x = Edge.told(house + "x holds c b a;person q in x;");
        Edge.due("from", x.walk(0, 0), 1);
        Edge.due("his ROOM", x.person(0, 0), 1);
        Edge.due("onward", x.walk(0, 1), 2);
        Edge.due("back again", x.walk(0, 1), 1);
        Edge.due("to the other side", x.walk(0, 0), 0);
        Edge.due("USES of the first that opens", x.key(1, 1), 4);
        Edge.due("not of the others", x.key(0, 1) + x.key(2, 1), 0);
        x.hang(1);
        x.walk(0, 0);
        Edge.due("then of the next", x.key(2, 1) * 10 + x.key(1, 1), 14);
        Edge.due("another one stays", x.person(1, 0), 0);
        PinPlan y = Edge.told(house + "z holds b;");
        Edge.due("a DOOR of other ROOMS", y.walk(0, 0), NONE);
        Edge.due("a KEY that does not open", y.walk(0, 2), NONE);
    }

    private static void otherTerms() {
        Edge.says("a KEY is given to one of the PEOPLE (by who holds it, in one ROOM with him; or from the HOOK, "
                + "wherever he is);");
        // ann and bob are in the hall, cid is in the study
        PinPlan x = Edge.busy();
        Edge.due("in one ROOM", x.give(0, 1), 0);
        Edge.due("not in one ROOM", x.give(0, 2), REFUSED);
        for (int p = 0; p < PEOPLE; p++) {
            Edge.due("from the HOOK", x.give(2, p), NONE);
            x.hang(2);
        }

        Edge.says("hung on the HOOK;");
        Edge.due("hang", x.hang(0), 1);
        Edge.due("who has it", x.key(0, 2), NONE);

        Edge.says("LOST;");
        Edge.due("lose", x.lose(0), NONE);
        Edge.due("who has it", x.key(0, 2), -2);

        Edge.says("found by one;");
        Edge.due("find", x.find(0, 2), 1);
        Edge.due("who has it", x.key(0, 2), 2);

        Edge.says("filed (1 deeper in a chamber);");
        Edge.due("file", x.file(0, 1), 2);
        Edge.due("its CUTS", x.cut(0, 0) * 100 + x.cut(0, 1) * 10 + x.cut(0, 2), 22);

        Edge.says("cut anew;");
        Edge.due("recut", x.recut(0, 21), 10);
        Edge.due("its CUTS", x.cut(0, 0) * 100 + x.cut(0, 1) * 10 + x.cut(0, 2), 111);

        Edge.says("a LOCK is pinned for KEYS (PARTS of a chamber are just their CUTS);");
        // 111 and 321
        Edge.due("pin", x.pin(0, 5), 5);
        Edge.due("PARTS", x.parts(0, 0) * 10000 + x.parts(0, 1) * 100 + x.parts(0, 2), 100602);
        x.recut(0, 0);
        Edge.due("they stay when a KEY is cut anew", x.parts(0, 0), 10);

        Edge.says("a PART is put in, or taken out (the last one in a chamber never).");
        Edge.due("put in", x.part(0, 2, 0), 3);
        Edge.due("taken out", x.part(0, 2, 1), 1);
        Edge.due("not the last one", x.part(0, 2, 0), NONE);
        Edge.due("it is there", x.parts(0, 2), 1);
    }

    private static void undoTerms() {
        Edge.says("UNDO takes back the latest ACT that was not,");
        for (int i = 0; i < ACTS.length; i++) {
            PinPlan x = Edge.busy();
            String before = Edge.acted(x);
            Edge.due(ACT_NAMES[i], can(ACTS[i], x), true);
            String after = Edge.acted(x);
            Edge.due(ACT_NAMES[i] + " does something", after.equals(before), false);
            Edge.due("undo", x.undo(), true);
            Edge.due(ACT_NAMES[i] + " is taken back", Edge.acted(x).equals(before), true);
            Edge.due("redo", x.redo(), true);
            Edge.due(ACT_NAMES[i] + " is done again", Edge.acted(x).equals(after), true);
        }
        // one after the other, the latest first
        PinPlan x = Edge.told(Edge.FLAT);
        for (int i = 0; i < 6; i++) {
            x.recut(0, 20 + i);
        }
        for (int i = 5; i > 0; i--) {
            Edge.due("undo", x.undo(), true);
            Edge.due("what was", x.key(0, 0), 19 + i);
        }
        // behind one taken back, another ACT is the latest
        x.recut(0, 40);
        x.undo();
        Edge.due("what was", x.key(0, 0), 20);
        x.undo();
        Edge.due("what was at first", x.key(0, 0), 6);
        Edge.due("no more", x.undo(), false);
        // an ACT by which nothing becomes another one is one, too
        PinPlan y = Edge.told(Edge.FLAT);
        y.recut(0, 6);
        y.pin(1, 2);
        Edge.due("ACTS", y.about(9), 2);
    }

    private static void redoTerms() {
        Edge.says("REDO does that again which was taken back last (till another ACT);");
        PinPlan x = Edge.told(Edge.FLAT);
        for (int i = 0; i < 4; i++) {
            x.recut(0, 20 + i);
        }
        for (int i = 0; i < 4; i++) {
            x.undo();
        }
        for (int i = 0; i < 3; i++) {
            Edge.due("redo", x.redo(), true);
            Edge.due("what is again", x.key(0, 0), 20 + i);
        }
        x.undo();
        Edge.due("taken back last", x.redo(), true);
        Edge.due("what is again", x.key(0, 0), 22);
        Edge.due("one is left", x.about(10), 1);
        for (int i = 0; i < ACTS.length; i++) {
            PinPlan y = Edge.busy();
            Edge.due("to redo", y.about(10), 1);
            Edge.due(ACT_NAMES[i], can(ACTS[i], y), true);
            Edge.due("to redo behind " + ACT_NAMES[i], y.about(10), 0);
            Edge.due("redo behind " + ACT_NAMES[i], y.redo(), false);
        }
        // a walk again: the SEED, the USE and the wear again
        PinPlan w = Edge.told(Edge.FLAT);
        w.walk(0, 0);
        String after = Edge.acted(w);
        w.undo();
        w.redo();
        Edge.due("a walk again", Edge.acted(w).equals(after), true);
        // what is no ACT does not end it
        PinPlan z = Edge.busy();
        z.tried(2, true);
        z.later(1);
        z.untell(1);
        z.image(1);
        z.route(0, 0);
        z.feed(0, 0, 0, 0, 0);
        z.end(0);
        Edge.due("still to redo", z.redo(), true);
    }

    /** So many ACTS: the NUMBER of the KEY tells how many of them stand. */
    private static PinPlan acted(int times) {
        PinPlan x = Edge.told("key a 0 0 0 0 0;");
        for (int i = 1; i <= times; i++) {
            x.recut(0, i);
        }
        return x;
    }

    private static int undone(PinPlan x) {
        int times = 0;
        while (times < 100 && x.undo()) {
            times++;
        }
        return times;
    }

    private static int redone(PinPlan x) {
        int times = 0;
        while (times < 100 && x.redo()) {
            times++;
        }
        return times;
    }

    private static void keptTerms() {
        Edge.says("40 at most are kept, the oldest go.");
        for (int times : new int[] {0, 1, 38, 39, 40, 41, 42, 79, 80, 81, 82, 83, 123, 200}) {
            int kept = Math.min(40, times);
            PinPlan x = acted(times);
            Edge.due("ACTS behind " + times, x.about(9), kept);
            Edge.due("undone", undone(x), kept);
            Edge.due("what stands then", x.key(0, 0), times - kept);
            Edge.due("to redo", x.about(10), kept);
            Edge.due("redone", redone(x), kept);
            Edge.due("what stands then", x.key(0, 0), times);
            // half of them, then others
            for (int i = 0; i < kept / 2; i++) {
                x.undo();
            }
            Edge.due("ACTS", x.about(9) * 100 + x.about(10), (kept - kept / 2) * 100 + kept / 2);
            for (int i = 0; i < 15; i++) {
                x.recut(0, 1000 + i);
            }
            Edge.due("ACTS", x.about(9), Math.min(40, kept - kept / 2 + 15));
            Edge.due("to redo", x.about(10), 0);
            undone(x);
            Edge.due("what stands then", x.key(0, 0), times - kept);
        }
        // of forty-one the first went: what it did stands
        PinPlan x = acted(41);
        undone(x);
        Edge.due("the first stands", x.key(0, 0), 1);
        Edge.due("no more", x.undo(), false);
        // while forty are taken back, none goes by another ACT
        x.recut(0, 7);
        Edge.due("ACTS", x.about(9) * 100 + x.about(10), 100);
        Edge.due("undo", x.undo(), true);
        Edge.due("what stands then", x.key(0, 0), 1);
    }

    // ---- the promises

    private static void walk() {
        Edge.promise(13);
        Edge.says("One walks through a DOOR: the ROOM in which he is then;");
        PinPlan x = Edge.told(Edge.FLAT);
        Edge.due("ann, from", x.walk(0, 0), 1);
        Edge.due("her ROOM", x.person(0, 0), 1);
        Edge.due("bob, to", x.walk(1, 0), 0);
        Edge.due("his ROOM", x.person(1, 0), 0);

        Edge.says("NONE, doing nothing, if it is none of his ROOM, no KEY that he holds OPENS it, or one can't be.");
        // red opens front, which bob's worn blue does not; old, which hangs there, opens vault
        Edge.refused("a DOOR of other ROOMS, by a KEY that opens it", NONE, () -> {
            PinPlan y = Edge.busy();
            y.recut(0, 20);
            return y;
        }, y -> y.walk(0, 1));
        Edge.refused("another ROOM's", NONE, y -> y.walk(2, 2));
        Edge.refused("without a KEY", NONE, y -> y.walk(2, 0));
        Edge.refused("by a KEY that does not open", NONE, y -> y.walk(0, 2));
        Edge.refused("by a worn KEY, another one in the ROOM having one that opens", NONE, y -> y.walk(1, 0));
        for (int n : Edge.outside(PEOPLE)) {
            Edge.refused("walk(" + n + ", 0)", NONE, y -> y.walk(n, 0));
        }
        for (int n : Edge.outside(DOORS)) {
            Edge.refused("walk(0, " + n + ")", NONE, y -> y.walk(0, n));
        }
        Edge.refused("nobody", NONE, PinPlan::new, y -> y.walk(0, 0));
        isAct(y -> y.walk(0, 0));
    }

    /** It counts as one that can be undone, and ends what can be redone. */
    private static void isAct(Edge.Call act) {
        Edge.says("(An ACT.)");
        PinPlan x = Edge.busy();
        int before = x.about(9);
        act.on(x);
        Edge.due("to undo", x.about(9), before + 1);
        Edge.due("to redo", x.about(10), 0);
        Edge.due("undo()", x.undo(), true);
        Edge.due("as it was", Edge.acted(x).equals(Edge.acted(Edge.busy())), true);
    }

    private static void give() {
        Edge.promise(14);
        Edge.says("A KEY is given to one: who had it (-1: the HOOK);");
        PinPlan x = Edge.busy();
        Edge.due("ann's to bob", x.give(0, 1), 0);
        Edge.due("bob's to ann", x.give(0, 0), 1);
        Edge.due("from the HOOK", x.give(2, 2), NONE);
        Edge.due("who has it", x.key(2, 2), 2);
        Edge.due("who has the other one", x.key(0, 2), 0);

        Edge.says("-3, doing nothing, if he has it, it is LOST, who holds it is in another ROOM, or one can't be.");
        Edge.refused("he has it", REFUSED, y -> y.give(0, 0));
        Edge.refused("it is LOST", REFUSED, y -> y.give(3, 0));
        Edge.refused("who holds it is in another ROOM", REFUSED, y -> y.give(0, 2));
        Edge.refusedBehind(y -> y.give(2, 2), "and the other way", REFUSED, y -> y.give(2, 0));
        for (int n : Edge.outside(KEYS)) {
            Edge.refused("give(" + n + ", 0)", REFUSED, y -> y.give(n, 0));
        }
        for (int n : Edge.outside(PEOPLE)) {
            Edge.refused("give(0, " + n + ")", REFUSED, y -> y.give(0, n));
            Edge.refused("give(2, " + n + ")", REFUSED, y -> y.give(2, n));
            Edge.refused("give(3, " + n + ")", REFUSED, y -> y.give(3, n));
        }
        isAct(y -> y.give(0, 1));
    }

    private static void hang() {
        Edge.promise(15);
        Edge.says("It is hung on the HOOK: who had it;");
        PinPlan x = Edge.busy();
        Edge.due("ann's", x.hang(0), 0);
        Edge.due("bob's", x.hang(1), 1);
        Edge.due("on the HOOK", x.idle(0), 7);

        Edge.says("-3, doing nothing, if it hangs there, is LOST, or there is none such.");
        Edge.refused("it hangs there", REFUSED, y -> y.hang(2));
        Edge.refused("it is LOST", REFUSED, y -> y.hang(3));
        for (int n : Edge.outside(KEYS)) {
            Edge.refused("hang(" + n + ")", REFUSED, y -> y.hang(n));
        }
        isAct(y -> y.hang(0));
    }

    private static void lose() {
        Edge.promise(16);
        Edge.says("It is LOST: who had it (-1: the HOOK);");
        PinPlan x = Edge.busy();
        Edge.due("ann's", x.lose(0), 0);
        Edge.due("bob's", x.lose(1), 1);
        Edge.due("the HOOK's", x.lose(2), NONE);
        Edge.due("LOST", x.idle(1), 15);

        Edge.says("-3, doing nothing, if it is LOST, or there is none such.");
        Edge.refused("it is LOST", REFUSED, y -> y.lose(3));
        for (int n : Edge.outside(KEYS)) {
            Edge.refused("lose(" + n + ")", REFUSED, y -> y.lose(n));
        }
        isAct(y -> y.lose(0));
    }

    private static void find() {
        Edge.promise(17);
        Edge.says("One finds a KEY that is LOST: how many he holds then;");
        PinPlan x = Edge.busy();
        Edge.due("his first", x.find(3, 2), 1);
        x.lose(0);
        x.lose(1);
        x.lose(2);
        Edge.due("his second", x.find(0, 2), 2);
        Edge.due("another one's first", x.find(1, 0), 1);
        Edge.due("his third", x.find(2, 2), 3);
        Edge.due("he holds", x.person(2, 1), 13);

        Edge.says("NONE, doing nothing, if it is not LOST, or one can't be.");
        Edge.refused("he holds it", NONE, y -> y.find(0, 0));
        Edge.refused("another one holds it", NONE, y -> y.find(0, 1));
        Edge.refused("it hangs there", NONE, y -> y.find(2, 0));
        for (int n : Edge.outside(KEYS)) {
            Edge.refused("find(" + n + ", 0)", NONE, y -> y.find(n, 0));
        }
        for (int n : Edge.outside(PEOPLE)) {
            Edge.refused("find(3, " + n + ")", NONE, y -> y.find(3, n));
        }
        isAct(y -> y.find(3, 2));
    }

    private static void file() {
        Edge.promise(18);
        Edge.says("It is filed in a chamber: the CUT then;");
        PinPlan x = Edge.busy();
        // red 012
        Edge.due("1 deeper", x.file(0, 0), 1);
        Edge.due("1 deeper", x.file(0, 0), 2);
        Edge.due("its CUTS", x.cut(0, 0) * 100 + x.cut(0, 1) * 10 + x.cut(0, 2), 212);
        Edge.due("as deep as can be", x.file(0, 0), 3);
        // blue was USED once: that stays; a LOST one is filed, too
        Edge.due("USED", x.file(1, 1) * 10 + x.key(1, 1), 21);
        Edge.due("a LOST one", x.file(3, 2), 3);

        Edge.says("NONE, doing nothing, if it would not be LEGAL, not below depths, or one can't be.");
        // 022 and 220 can't be deeper in the middle, 122 and 221 can; 333 nowhere, 323 can
        Edge.refusedBehind(y -> y.recut(0, 10), "too far from the one ahead", NONE, y -> y.file(0, 1));
        Edge.refusedBehind(y -> y.recut(0, 40), "too far from the one behind", NONE, y -> y.file(0, 1));
        Edge.due("just so far from the one ahead", filed(26), 3);
        Edge.due("just so far from the one behind", filed(41), 3);
        for (int c = 0; c < CHAMBERS; c++) {
            int chamber = c;
            Edge.refusedBehind(y -> y.recut(0, 63), "not below depths", NONE, y -> y.file(0, chamber));
        }
        Edge.due("the last depth", filed(59), 3);
        for (int n : Edge.outside(KEYS)) {
            Edge.refused("file(" + n + ", 0)", NONE, y -> y.file(n, 0));
        }
        for (int n : Edge.outside(CHAMBERS)) {
            Edge.refused("file(0, " + n + ")", NONE, y -> y.file(0, n));
        }
        isAct(y -> y.file(0, 2));
    }

    private static int filed(int number) {
        PinPlan x = Edge.busy();
        x.recut(0, number);
        return x.file(0, 1);
    }

    private static void recut() {
        Edge.promise(19);
        Edge.says("It is cut anew (USED 0 times then): the NUMBER that it had;");
        // blue, worn: 210, USED once
        PinPlan x = Edge.busy();
        Edge.due("USED", x.key(1, 1), 1);
        Edge.due("recut", x.recut(1, 0), 36);
        Edge.due("its NUMBER", x.key(1, 0), 0);
        Edge.due("USED then", x.key(1, 1), 0);
        Edge.due("the last NUMBER", x.recut(1, 63), 0);
        Edge.due("the same", x.recut(1, 63), 63);
        Edge.due("a LOST one", x.recut(3, 1), 42);
        x.undo();
        x.undo();
        x.undo();
        x.undo();
        Edge.due("USED, undone", x.key(1, 1), 1);
        Edge.due("who has it stays", x.key(1, 2), 1);

        Edge.says("NONE, doing nothing, if the new one is not LEGAL, or one can't be.");
        // 003, 030, 033, 300, 303, 330 are not; 002, 020, 200 are
        for (int number : new int[] {3, 12, 15, 48, 51, 60, 64, 65, 127, -1, -64, MIN, MAX}) {
            Edge.refused("recut(0, " + number + ")", NONE, y -> y.recut(0, number));
        }
        for (int number : new int[] {2, 8, 32, 63}) {
            Edge.due("recut(0, " + number + ")", Edge.busy().recut(0, number), 6);
        }
        for (int n : Edge.outside(KEYS)) {
            Edge.refused("recut(" + n + ", 0)", NONE, y -> y.recut(n, 0));
        }
        PinPlan large = Edge.told("key a 0 0 0 0 0;");
        Edge.due("7,775", large.recut(0, 7775), 0);
        Edge.due("7,776", large.recut(0, 7776), NONE);
        isAct(y -> y.recut(0, 0));
    }

    private static void pin() {
        Edge.promise(20);
        Edge.says("A LOCK is pinned for KEYS (as bits, one at least): how many PARTS it has then, all chambers together;");
        // 012, 210, 321, 222 (the LOST one)
        int[] counts = {3, 3, 5, 3, 6, 6, 8, 3, 5, 5, 6, 5, 7, 7, 8};
        for (int keys = 1; keys <= 15; keys++) {
            PinPlan x = Edge.busy();
            int parts = 0;
            int due = 0;
            for (int c = 0; c < CHAMBERS; c++) {
                int depths = 0;
                for (int k = 0; k < KEYS; k++) {
                    depths |= (keys >> k & 1) << x.cut(k, c);
                }
                due += Integer.bitCount(depths);
                parts = parts * 16 + depths;
            }
            Edge.due("pin(2, " + keys + ")", x.pin(2, keys), due);
            Edge.due("PARTS", (x.parts(2, 0) * 16 + x.parts(2, 1)) * 16 + x.parts(2, 2), parts);
            Edge.due("how many", x.lock(2, 0), due);
            Edge.due("it opens for them", x.lock(2, 1) & keys, keys);
            Edge.due("by hand", counts[keys - 1], due);
        }
        StringBuilder text = new StringBuilder("chambers 2;lock l 5 5;");
        for (int k = 0; k < 8; k++) {
            text.append("key ").append((char) ('a' + k)).append(" 0 ").append(k % 6).append(";");
        }
        PinPlan full = Edge.told(text.toString());
        Edge.due("all eight", full.pin(0, 255), 7);
        Edge.due("the eighth", full.pin(0, 128), 2);

        Edge.says("NONE, doing nothing, if one can't be.");
        for (int keys : new int[] {0, 16, 17, 31, 256, -1, -2, -16, MIN, MIN | 1, MAX}) {
            Edge.refused("pin(0, " + keys + ")", NONE, y -> y.pin(0, keys));
        }
        for (int n : Edge.outside(LOCKS)) {
            Edge.refused("pin(" + n + ", 1)", NONE, y -> y.pin(n, 1));
        }
        Edge.due("a ninth", full.pin(0, 256), NONE);
        Edge.due("a ninth", full.pin(0, 511), NONE);
        isAct(y -> y.pin(0, 8));
    }

    private static void part() {
        Edge.promise(21);
        Edge.says("A PART is put in, if it is not there, else it is taken out: PARTS of that chamber, as bits, then;");
        // vault: 3 2 1/3
        PinPlan x = Edge.busy();
        Edge.due("put in", x.part(2, 0, 0), 9);
        Edge.due("put in", x.part(2, 0, 1), 11);
        Edge.due("put in", x.part(2, 0, 2), 15);
        Edge.due("taken out", x.part(2, 0, 3), 7);
        Edge.due("taken out", x.part(2, 0, 0), 6);
        Edge.due("taken out", x.part(2, 0, 2), 2);
        Edge.due("another chamber", x.part(2, 2, 3), 2);
        Edge.due("PARTS", x.lock(2, 0), 3);
        Edge.due("another LOCK stays", x.lock(0, 0), 5);

        Edge.says("NONE, doing nothing, if it is the only one there, or one can't be.");
        Edge.refused("the only one", NONE, y -> y.part(2, 0, 3));
        Edge.refused("the only one", NONE, y -> y.part(2, 1, 2));
        Edge.due("one of two", Edge.busy().part(2, 2, 3), 2);
        Edge.refusedBehind(y -> y.part(2, 2, 3), "the only one then", NONE, y -> y.part(2, 2, 1));
        for (int n : Edge.outside(LOCKS)) {
            Edge.refused("part(" + n + ", 0, 0)", NONE, y -> y.part(n, 0, 0));
        }
        for (int n : Edge.outside(CHAMBERS)) {
            Edge.refused("part(0, " + n + ", 0)", NONE, y -> y.part(0, n, 0));
        }
        for (int n : Edge.outside(DEPTHS)) {
            Edge.refused("part(0, 0, " + n + ")", NONE, y -> y.part(0, 0, n));
        }
        isAct(y -> y.part(0, 0, 2));
    }

    private static void undoAndRedo() {
        Edge.Maker nothingDone = () -> Edge.told(Edge.FLAT);
        Edge.Maker allUndone = () -> {
            PinPlan x = Edge.busy();
            undone(x);
            return x;
        };
        Edge.Maker allRedone = () -> {
            PinPlan x = Edge.busy();
            x.redo();
            return x;
        };
        Edge.promise(22);
        Edge.says("UNDO: true; false if there is none.");
        Edge.due("undo", Edge.busy().undo(), true);
        Edge.refused("undo of a new object", 0, PinPlan::new, x -> Edge.one(x.undo()));
        Edge.refused("undo behind a plan", 0, nothingDone, x -> Edge.one(x.undo()));
        Edge.refused("undo, all being undone", 0, allUndone, x -> Edge.one(x.undo()));
        PinPlan x = acted(1);
        Edge.due("the only one", x.undo(), true);
        Edge.due("no more", x.undo(), false);

        Edge.promise(23);
        Edge.says("REDO: true; false if there is none.");
        Edge.due("redo", Edge.busy().redo(), true);
        Edge.refused("redo of a new object", 0, PinPlan::new, y -> Edge.one(y.redo()));
        Edge.refused("redo behind a plan", 0, nothingDone, y -> Edge.one(y.redo()));
        Edge.refused("redo, all being redone", 0, allRedone, y -> Edge.one(y.redo()));
        Edge.due("the only one", x.redo(), true);
        Edge.due("no more", x.redo(), false);
    }

    // ---- images

    private static void image() {
        Edge.promise(61);
        Edge.says("KEYS, who has them, LOCKS, where PEOPLE are, the SEED are kept in a BOX 0 .. 2:");
        for (int box = 0; box < 3; box++) {
            int kept = box;
            for (int i = 0; i < ACTS.length; i++) {
                PinPlan x = Edge.busy();
                String before = Edge.acted(x);
                x.image(kept);
                ACTS[i].on(x);
                Edge.due(ACT_NAMES[i] + " does something", Edge.acted(x).equals(before), false);
                x.back(kept);
                Edge.due("as it was ahead of " + ACT_NAMES[i], Edge.acted(x).equals(before), true);
            }
            // it is no ACT, and the other BOXES stay
            PinPlan y = Edge.busy();
            String before = Edge.now(y);
            y.image(kept);
            Edge.due("nothing is done", Edge.now(y).equals(before), true);
        }
        PinPlan three = Edge.told(Edge.FLAT);
        for (int box = 0; box < 3; box++) {
            three.recut(0, 16 + box);
            three.image(box);
        }
        for (int box = 2; box >= 0; box--) {
            three.back(box);
            Edge.due("each has its own", three.key(0, 0), 16 + box);
        }
        // the later image takes the place of the earlier one
        three.recut(0, 40);
        three.image(1);
        three.recut(0, 41);
        three.back(1);
        Edge.due("the later one", three.key(0, 0), 40);

        Edge.says("how many KEYS are LOST;");
        PinPlan x = Edge.told(Edge.FLAT);
        for (int lost = 0; lost < KEYS; lost++) {
            Edge.due("image", x.image(lost % 3), lost);
            x.lose(lost);
        }
        Edge.due("all of them", x.image(0), KEYS);
        Edge.due("no KEYS", new PinPlan().image(0), 0);

        Edge.says("NONE if there is none such.");
        for (int n : Edge.outside(3)) {
            Edge.refused("image(" + n + ")", NONE, y -> y.image(n));
        }
    }

    private static void back() {
        Edge.promise(62);
        Edge.says("All is as it was kept (no ACTS are kept then): likewise;");
        PinPlan x = Edge.busy();
        Edge.due("none is LOST", x.back(0), 0);
        Edge.due("as at first", Edge.acted(x).equals(Edge.acted(Edge.told(Edge.FLAT))), true);
        Edge.due("ACTS", x.about(9) * 100 + x.about(10), 0);
        Edge.due("undo", x.undo(), false);
        Edge.due("redo", x.redo(), false);
        Edge.due("one is LOST", x.back(2), 1);
        Edge.due("LOST", x.idle(1), 8);
        // once more, from what was done since
        x.find(3, 0);
        Edge.due("to undo", x.about(9), 1);
        Edge.due("again", x.back(2), 1);
        Edge.due("LOST", x.idle(1), 8);
        Edge.due("ACTS", x.about(9) * 100 + x.about(10), 0);
        // what is no part of an image stays
        PinPlan y = Edge.busy();
        y.back(0);
        Edge.due("TRIED", y.about(11), 2);
        Edge.due("TIME", y.about(12), 10);
        Edge.due("the TAPE", y.about(13), 7);
        Edge.due("what lies there", y.about(15) * 10 + y.lies(0), 10);
        Edge.due("the other BOX", y.back(2), 1);

        Edge.says("NONE, doing nothing, if nothing was.");
        Edge.refused("back(1)", NONE, z -> z.back(1));
        for (int n : Edge.outside(3)) {
            Edge.refused("back(" + n + ")", NONE, z -> z.back(n));
        }
        for (int box = 0; box < 3; box++) {
            int empty = box;
            Edge.refused("back(" + box + ") of a new object", NONE, PinPlan::new, z -> z.back(empty));
        }
    }
}
