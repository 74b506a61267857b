/** The promises of the TAPE and the PLAN, 1 to 5, sentence by sentence. */
final class TapeEdges {
    private static final int NONE = PinPlan.NONE;
    private static final int MIN = Integer.MIN_VALUE;
    private static final int MAX = Integer.MAX_VALUE;

    private TapeEdges() {
    }

    static void all() {
        Edge.promise(1);
        newObject();
        Edge.promise(2);
        feeding();
        Edge.promise(3);
        ending();
        Edge.promise(4);
        planning();
        faulty();
        Edge.promise(5);
        faults();
    }

    private static void newObject() {
        Edge.says("An empty PLAN (5 chambers, 6 depths, step 5).");
        PinPlan x = new PinPlan();
        for (int what = 0; what <= 15; what++) {
            int want = what == 5 || what == 7 ? 5 : what == 6 ? 6 : 0;
            Edge.due("about(" + what + ")", x.about(what), want);
        }
        Edge.due("legal()", x.legal(), 7776);
        Edge.due("undo()", x.undo(), false);
        Edge.due("redo()", x.redo(), false);
        Edge.due("lies(0)", x.lies(0), -2);
        for (int box = 0; box < 3; box++) {
            Edge.due("back(" + box + ")", x.back(box), NONE);
        }
        Edge.alike("plan() of nothing", PinPlan::new, () -> {
            PinPlan y = new PinPlan();
            y.plan();
            return y;
        });
        // one object knows nothing of another one
        Edge.busy();
        Edge.due("KEYS of a second object", new PinPlan().about(0), 0);
    }

    /** So many bytes are on the TAPE. */
    private static PinPlan taped(int bytes) {
        PinPlan x = Edge.busy();
        Tape.put(x, Edge.repeated("room ", 320).substring(0, bytes));
        return x;
    }

    private static void feeding() {
        Edge.says("Twenty bytes come behind those on the TAPE, of each number the highest first: how many there are;");
        PinPlan x = new PinPlan();
        Edge.due("feed", x.feed(0, 0, 0, 0, 0), 20);
        Edge.due("feed", x.feed(-1, MIN, MAX, 1, 255), 40);
        Edge.due("bytes", x.about(13), 40);
        x.end(1);
        Edge.due("feed behind one byte", x.feed(0, 0, 0, 0, 0), 21);
        x.end(0);
        // "room", " abc", "d;ro", "om e", ";   "
        x.feed(0x726f6f6d, 0x20616263, 0x643b726f, 0x6f6d2065, 0x3b202020);
        Edge.due("plan()", x.plan(), 0);
        Edge.due("ROOMS", x.about(2), 2);
        // each of the twenty places, a byte that is no TOKEN; the highest bit is a byte's own
        for (int place = 0; place < 20; place++) {
            for (int wrong : new int[] {'$', 128, 255, 0}) {
                int[] w = {0x20202020, 0x20202020, 0x20202020, 0x20202020, 0x20202020};
                int shift = 24 - place % 4 * 8;
                w[place / 4] = w[place / 4] & ~(255 << shift) | wrong << shift;
                PinPlan y = new PinPlan();
                y.feed(w[0], w[1], w[2], w[3], w[4]);
                y.plan();
                Edge.due("the byte " + wrong + " at", y.fault(0) * 100 + y.fault(1), 100 + place);
            }
        }
        // behind what end() left
        PinPlan z = new PinPlan();
        Tape.put(z, "room a;$$$$");
        z.end(7);
        z.feed(0x726f6f6d, 0x20623b20, 0x20202020, 0x20202020, 0x20202020);
        Edge.due("plan()", z.plan(), 0);
        Edge.due("ROOMS", z.about(2), 2);

        Edge.says("NONE, and nothing comes, if there would be more than 1,600.");
        Edge.due("at 1,579", taped(1579).feed(0, 0, 0, 0, 0), 1599);
        Edge.due("at 1,580", taped(1580).feed(0, 0, 0, 0, 0), 1600);
        for (int bytes : new int[] {1581, 1582, 1590, 1599, 1600}) {
            Edge.refused("feed at " + bytes, NONE, () -> taped(bytes), y -> y.feed(0, 0, 0, 0, 0));
        }
        PinPlan full = taped(1600);
        full.feed(0, 0, 0, 0, 0);
        Edge.due("it is full", full.about(13), 1600);
        full.end(1580);
        Edge.due("there is room again", full.feed(0, 0, 0, 0, 0), 1600);
    }

    private static void ending() {
        Edge.says("The TAPE has its first n bytes: n;");
        PinPlan x = new PinPlan();
        Edge.due("end(0)", x.end(0), 0);
        Tape.put(x, "room a;room b;room c;");
        Edge.due("all", x.end(21), 21);
        Edge.due("one less", x.end(20), 20);
        Edge.due("seven", x.end(7), 7);
        Edge.due("bytes", x.about(13), 7);
        Edge.due("plan()", x.plan(), 0);
        Edge.due("ROOMS", x.about(2), 1);
        PinPlan full = taped(1600);
        Edge.due("1,600", full.end(1600), 1600);
        Edge.due("0", full.end(0), 0);
        Edge.stays("end() of all", Edge::busy, y -> y.end(7));

        Edge.says("NONE, doing nothing, if it has not so many, or n is below 0.");
        for (int n : new int[] {8, 9, 20, 1600, 1601, MAX, -1, -2, MIN}) {
            Edge.refused("end(" + n + ") of seven bytes", NONE, y -> y.end(n));
        }
        Edge.refused("end(1) of none", NONE, PinPlan::new, y -> y.end(1));
        Edge.refused("end(-1) of none", NONE, PinPlan::new, y -> y.end(-1));
        Edge.refused("end(1601) of 1,600", NONE, () -> taped(1600), y -> y.end(1601));
        // what was cut off does not come back
        PinPlan cut = taped(100);
        cut.end(50);
        Edge.due("end(51)", cut.end(51), NONE);
    }

    private static void planning() {
        Edge.says("The TAPE (empty then) is the PLAN");
        PinPlan x = Edge.busy();
        Edge.due("bytes", x.about(13), 7);
        Edge.due("plan()", x.plan(), 0);
        Edge.due("bytes then", x.about(13), 0);
        Edge.due("ROOMS", x.about(2), 1);
        Edge.due("plan() of the empty TAPE", x.plan(), 0);
        Edge.due("ROOMS", x.about(2), 0);

        // once again what was told: nothing is left of what was done
        Edge.Maker again = () -> {
            PinPlan y = Edge.busy();
            Tape.put(y, Edge.FLAT);
            y.plan();
            return y;
        };
        Edge.says("(all as told, no ACTS are kept, nothing is TRIED, nothing lies there, BOXES are empty then;");
        PinPlan y = again.make();
        Edge.due("as told", Edge.acted(y).equals(Edge.acted(Edge.told(Edge.FLAT))), true);
        Edge.due("ACTS", y.about(9) * 100 + y.about(10), 0);
        Edge.due("undo()", y.undo(), false);
        Edge.due("redo()", y.redo(), false);
        Edge.due("TRIED", y.about(11), 0);
        Edge.due("untell(1)", y.untell(1), false);
        Edge.due("the next TRIED", y.tried(0, true), 0);
        Tape.put(y, Edge.FLAT);
        y.plan();
        Edge.due("untell(0)", y.untell(0), false);
        Edge.due("what lies there", y.about(15), 0);
        Edge.due("lies(0)", y.lies(0), -2);
        afterAnother();
        for (int box = 0; box < 3; box++) {
            Edge.due("back(" + box + ")", y.back(box), NONE);
        }
        Edge.alike("plan() again", () -> {
            PinPlan z = Edge.told(Edge.FLAT);
            z.later(10);
            return z;
        }, again);

        Edge.says("the TIME stays):");
        Edge.due("TIME", again.make().about(12), 10);

        Edge.says("how many KEYS;");
        for (int n = 0; n <= 8; n++) {
            StringBuilder text = new StringBuilder("chambers 2;lock l 0 0;");
            for (int i = 0; i < n; i++) {
                text.append("key ").append((char) ('a' + i)).append(" 0 0;");
            }
            PinPlan z = new PinPlan();
            Tape.put(z, text.toString());
            Edge.due("plan()", z.plan(), n);
            Edge.due("KEYS", z.about(0), n);
        }
    }

    /** Whatever was told and asked ahead of a text, all is as in a new object. */
    private static void afterAnother() {
        String small = "chambers 2;depths 3;step 1;";
        String lock = "lock l 0/1 0/2;";
        String[] texts = {"", small, "chambers 3;depths 3;step 1;", "chambers 2;depths 4;step 1;", "chambers 2;depths 3;step 2;",
            small + lock, "chambers 2;depths 4;step 1;" + lock, "chambers 2;depths 3;step 2;" + lock,
            small + lock + "lock m 1/2 1/2;", Edge.FLAT, "step 1;key a 0 1 2 3 4;lock l 0/1 1 2/3 3 4/5;",
            "key a 0 1 2 3 4;key b 5 4 3 2 1;lock l 0/1/2 1/2/3 2/3/4 0/3 4;lock m 5 4 3 2 1;must a l;never b m;wear uses + 30;",
            "chambers 2;step 1;key a 0 0;key b 1 1;lock l 0/2/5 3/4;lock m 0 0/1;must a l;never b l;wear 100;",
            "chambers 2;step 1;key a 0 0;key b 1 1;lock l 0/2/5 3/4;lock m 0 0/1;must b l;never a l;"};
        for (String first : texts) {
            for (String second : texts) {
                PinPlan x = Edge.told(first);
                Edge.answers(x);
                Tape.put(x, second);
                x.plan();
                Edge.due(second + " behind " + first, Edge.answers(x).equals(Edge.answers(Edge.told(second))), true);
            }
        }
    }

    private static void faulty() {
        Edge.says("NONE: a FAULT (all stays).");
        String ahead = "chambers 2;depths 3;key a 0 0;lock l 0 0;room x;wear 1+1;draw 5;";
        String[] texts = {"$", ahead + "$", ahead + "room ;", ahead + "room x;", ahead + "draw 1000;", ahead + "draw 3;",
            ahead + "person p in y;", ahead + "never a l", ahead + "key a 1 1;", "chambers 9;", "wear 1;wear 2;"};
        for (String text : texts) {
            Edge.Maker maker = () -> {
                PinPlan x = Edge.busy();
                Tape.put(x, text);
                return x;
            };
            Edge.due("plan() of " + text, maker.make().plan(), NONE);
            Edge.staysButFault("plan() of " + text, maker, PinPlan::plan);
        }
        // the TAPE can be mended
        PinPlan x = new PinPlan();
        Tape.put(x, "room a;room a;");
        Edge.due("plan()", x.plan(), NONE);
        Edge.due("the TAPE", x.about(13), 14);
        x.end(7);
        Edge.due("plan()", x.plan(), 0);
        Edge.due("ROOMS", x.about(2), 1);
    }

    private static void faults() {
        Edge.says("Of the latest plan() what 0: its FAULT (0), 1: its place (NONE).");
        PinPlan x = new PinPlan();
        Edge.due("FAULT at first", x.fault(0), 0);
        Edge.due("place at first", x.fault(1), NONE);
        String[] texts = {"$", "room ;", "room a;room a;", "draw 1000;", "person p in x;"};
        int[] places = {0, 5, 12, 5, 12};
        for (int i = 0; i < texts.length; i++) {
            Tape.put(x, texts[i]);
            x.plan();
            Edge.due("FAULT of " + texts[i], x.fault(0), i + 1);
            Edge.due("its place", x.fault(1), places[i]);
            Edge.due("FAULT, asked again", x.fault(0), i + 1);
            x.end(0);
            Edge.due("FAULT, while the TAPE is another one", x.fault(0), i + 1);
        }
        Edge.due("plan()", x.plan(), 0);
        Edge.due("FAULT then", x.fault(0), 0);
        Edge.due("place then", x.fault(1), NONE);

        Edge.says("NONE for another what.");
        Tape.put(x, "$");
        x.plan();
        for (int what : Edge.beside(0, 1)) {
            Edge.due("fault(" + what + ")", x.fault(what), NONE);
        }
    }
}
