/** The Terms of BITTINGS, KEYS and USES (==== 2), sentence by sentence. */
final class UseEdges {
    private static final int NONE = PinPlan.NONE;

    private UseEdges() {
    }

    static void all() {
        Edge.promise(0);
        bittings();
        keys();
        seed();
        wornChamber();
        howMuch();
        beside();
        uses();
        arithmetic();
        truth();
        deeper();
    }

    // ---- what is told

    private static void bittings() {
        Edge.says("A BITTING is a CUT for each chamber;");
        PinPlan x = Edge.told("key a 5 4 3 2 1;");
        for (int c = 0; c < 5; c++) {
            Edge.due("CUT", x.cut(0, c), 5 - c);
        }
        Edge.due("no sixth CUT", x.cut(0, 5), NONE);

        Edge.says("its NUMBER has these as digits to the base of depths (the first chamber's the highest).");
        Edge.due("54321 to the base of 6", x.key(0, 0), 7465);
        Edge.due("12 to the base of 3", Edge.told("chambers 2;depths 3;key a 1 2;").key(0, 0), 5);
        Edge.due("10 to the base of 2", Edge.told("chambers 2;depths 2;key a 1 0;").key(0, 0), 2);
        Edge.due("the least", Edge.told("key a 0 0 0 0 0;").key(0, 0), 0);
        Edge.due("the greatest", Edge.told("key a 5 5 5 5 5;").key(0, 0), 7775);

        Edge.says("It is LEGAL if no CUT is more than step from the one ahead of it.");
        for (int[] size : new int[][] {{2, 6, 0}, {2, 6, 1}, {2, 6, 5}, {3, 4, 2}, {3, 5, 3}, {4, 2, 0}, {4, 3, 1}, {5, 2, 1}}) {
            String sizes = "chambers " + size[0] + ";depths " + size[1] + ";step " + size[2] + ";";
            PinPlan y = Edge.told(sizes);
            int ahead = 0;
            for (int number = 0; number < Edge.power(size[1], size[0]); number++) {
                boolean is = Edge.legal(Edge.digits(number, size[0], size[1]), size[2]);
                Edge.due("rank of " + number + " by " + sizes, y.rank(number), is ? ahead : NONE);
                ahead += Edge.one(is);
                if (number % 100 == 99) {
                    y = Edge.told(sizes);
                }
            }
            Edge.due("behind the last one", y.rank(Edge.power(size[1], size[0])), NONE);
        }
    }

    private static void keys() {
        Edge.says("A LOCK has a set of PARTS in each chamber (as told, at first);");
        PinPlan x = Edge.told("chambers 3;lock a 5 0/1/2/3/4/5 4/0;lock b 0 1 2;");
        Edge.due("one", x.parts(0, 0), 32);
        Edge.due("all", x.parts(0, 1), 63);
        Edge.due("two", x.parts(0, 2), 17);
        Edge.due("another one's", x.parts(1, 2), 4);

        Edge.says("a BITTING OPENS it if in each chamber its CUT is one of these.");
        PinPlan y = Edge.told("chambers 2;depths 3;lock a 0/2 1/2;");
        int[] opening = {0, 1, 1, 0, 0, 0, 0, 1, 1};
        for (int number = 0; number < 9; number++) {
            Edge.due("opens(" + number + ", 0)", y.opens(number, 0), opening[number]);
        }

        Edge.says("A KEY has a BITTING (as told, at first; always LEGAL),");
        PinPlan z = Edge.told("chambers 2;depths 4;step 1;key a 0 1;lock l 0/1/2/3 0/1/2/3;room x;room y;"
                + "door d from x to y lock l;person p in x holds a;wear 100;");
        Edge.due("as told", z.key(0, 0), 1);
        for (int i = 0; i < 60; i++) {
            z.walk(0, 0);
            z.file(0, i % 2);
            Edge.due("it is LEGAL", z.rank(z.key(0, 0)) != NONE, true);
        }
        Edge.due("as deep as can be", z.key(0, 0), 15);

        Edge.says("was USED so often (0 at first),");
        PinPlan u = Edge.told(Edge.FLAT);
        Edge.due("USED", u.key(0, 1) + u.key(1, 1) + u.key(2, 1) + u.key(3, 1), 0);
        u.walk(0, 0);
        Edge.due("USED once", u.key(0, 1), 1);
        Edge.due("others not", u.key(1, 1) + u.key(2, 1) + u.key(3, 1), 0);

        Edge.says("is held by one of the PEOPLE, hangs on the HOOK (whichever is held by nobody, at first), "
                + "or is LOST (none is, at first).");
        PinPlan w = Edge.told(Edge.FLAT);
        int[] holders = {0, 1, NONE, NONE};
        for (int k = 0; k < 4; k++) {
            Edge.due("who has the KEY " + k, w.key(k, 2), holders[k]);
        }
        Edge.due("on the HOOK", w.idle(0), 12);
        Edge.due("LOST", w.idle(1), 0);
        // one is in one place alone
        w.lose(2);
        w.hang(0);
        Edge.due("on the HOOK", w.idle(0), 9);
        Edge.due("LOST", w.idle(1), 4);
        Edge.due("held", w.person(0, 1) * 100 + w.person(1, 1) * 10 + w.person(2, 1), 20);

        Edge.says("One of the PEOPLE is in a ROOM.");
        Edge.due("ROOMS", w.person(0, 0) * 100 + w.person(1, 0) * 10 + w.person(2, 0), 11);
        PinPlan last = Edge.told("room a;room b;room c;room d;room e;room f;person p in f;person q in a;");
        Edge.due("the last ROOM", last.person(0, 0), 5);
        Edge.due("the first ROOM", last.person(1, 0), 0);
    }

    // ---- a USE

    /** The draw behind which the SEED is this one at the next USE; 73 is 137 the other way round, modulo 1,000. */
    private static int drawFor(int seed) {
        return Math.floorMod((seed - 71) * 73, 1000);
    }

    /** A KEY in a LOCK that lets all in, so that each walk is a USE. */
    private static PinPlan ready(int chambers, String sizes, String cuts, int seed, String wear) {
        String part = sizes.contains("depths 4") ? " 0/1/2/3" : " 0/1/2/3/4/5";
        return Edge.told("chambers " + chambers + ";" + sizes + "key a " + cuts + ";lock l" + Edge.repeated(part, chambers)
                + ";room x;room y;door d from x to y lock l;person p in x holds a;draw " + drawFor(seed) + ";" + wear);
    }

    /** The BITTING of a KEY, digit by digit. */
    private static String cutsOf(PinPlan x) {
        StringBuilder cuts = new StringBuilder();
        for (int c = 0; c < x.about(5); c++) {
            cuts.append(c == 0 ? "" : " ").append(x.cut(0, c));
        }
        return cuts.toString();
    }

    private static void wears(int chambers, String sizes, String cuts, int seed, String wear, String then) {
        PinPlan x = ready(chambers, sizes, cuts, seed, wear);
        Edge.due("walk", x.walk(0, 0), 1);
        Edge.due("the SEED", x.about(8), seed);
        String got = cutsOf(x);
        if (!got.equals(then)) {
            Edge.complain(cuts + " becomes " + got + " by " + sizes + wear + " at the SEED " + seed + ", due is " + then);
        }
        Edge.due("USED", x.key(0, 1), 1);
    }

    private static void seed() {
        Edge.says("A USE of a KEY: the SEED (draw, at first) becomes its 137-fold and 71 more, modulo 1,000;");
        int[][] all = {{0, 71}, {1, 208}, {6, 893}, {7, 30}, {744, 999}, {817, 0}, {890, 1}, {998, 797}, {999, 934}};
        for (int[] two : all) {
            PinPlan x = Edge.told(Edge.FLAT.replace("draw 7", "draw " + two[0]));
            Edge.due("the SEED at first", x.about(8), two[0]);
            x.walk(0, 0);
            Edge.due("the SEED then", x.about(8), two[1]);
        }
        PinPlan x = ready(2, "", "0 0", 71, "");
        int seed = 0;
        for (int i = 0; i < 100; i++) {
            x.walk(0, 0);
            seed = (seed * 137 + 71) % 1000;
            Edge.due("the SEED", x.about(8), seed);
        }
        Edge.due("not told: 71 next", Edge.told("draw 0;").about(8), 0);
    }

    private static void wornChamber() {
        Edge.says("the chamber whose number (0 ..) is the SEED modulo how many there are WEARS,");
        for (int chambers = 2; chambers <= 5; chambers++) {
            for (int seed : new int[] {0, 1, 2, 3, 4, 5, 6, 9, 10, 500, 998, 999}) {
                String cuts = Edge.repeated(" 0", chambers).trim();
                int at = seed % chambers;
                String then = cuts.substring(0, 2 * at) + "1" + cuts.substring(2 * at + 1);
                wears(chambers, "", cuts, seed, "wear 100;", then);
            }
        }
    }

    private static void howMuch() {
        Edge.says("if the SEED / 10 (cut) is less than what comes of wear (0, if it is not told)");
        // the SEEDS are even: the first chamber of two
        int[] seeds = {0, 8, 10, 18, 180, 188, 190, 198, 980, 988, 990, 998};
        for (int seed : seeds) {
            int ten = seed / 10;
            wears(2, "", "0 0", seed, "wear " + ten + ";", "0 0");
            wears(2, "", "0 0", seed, "wear " + (ten + 1) + ";", "1 0");
            if (ten > 0) {
                wears(2, "", "0 0", seed, "wear " + (ten - 1) + ";", "0 0");
            }
            wears(2, "", "0 0", seed, "wear 9999;", "1 0");
            wears(2, "", "0 0", seed, "wear 0;", "0 0");
            wears(2, "", "0 0", seed, "wear 0 - 1;", "0 0");
            wears(2, "", "0 0", seed, "", "0 0");
        }

        Edge.says("by cut (the CUT there),");
        int[] cuts = {3, 1, 4, 0, 2};
        for (int c = 0; c < 5; c++) {
            String then = deeperAt("3 1 4 0 2", c);
            wears(5, "", "3 1 4 0 2", 500 + c, "wear (cut = " + cuts[c] + ") * 100;", then);
            wears(5, "", "3 1 4 0 2", 500 + c, "wear (not cut = " + cuts[c] + ") * 100;", "3 1 4 0 2");
        }
    }

    private static String deeperAt(String cuts, int chamber) {
        char[] all = cuts.toCharArray();
        all[2 * chamber]++;
        return new String(all);
    }

    private static void besideIs(String cuts, int chamber, int greatest) {
        int chambers = (cuts.length() + 1) / 2;
        int seed = 20 * chambers + chamber;
        wears(chambers, "", cuts, seed, "wear (beside = " + greatest + ") * 100;", deeperAt(cuts, chamber));
        wears(chambers, "", cuts, seed, "wear (not beside = " + greatest + ") * 100;", cuts);
    }

    private static void beside() {
        Edge.says("beside (the greatest of the CUTS in the chambers next to it),");
        // the first and the last chamber have one next to them
        int[] greatest = {1, 4, 1, 4, 0};
        for (int c = 0; c < 5; c++) {
            besideIs("3 1 4 0 2", c, greatest[c]);
        }
        besideIs("0 4", 0, 4);
        besideIs("4 0", 1, 4);
        besideIs("4 0", 0, 0);
        // the one ahead, the one behind, both alike; not its own
        besideIs("5 0 1", 1, 5);
        besideIs("1 0 5", 1, 5);
        besideIs("3 0 3", 1, 3);
        besideIs("0 4 0", 1, 0);
        // not what lies behind those next to it
        besideIs("0 1 5", 0, 1);
        besideIs("5 1 0", 2, 1);
    }

    private static void uses() {
        Edge.says("uses (how often the KEY was USED ahead of it),");
        wears(2, "", "0 0", 0, "wear (uses = 0) * 100;", "1 0");
        wears(2, "", "0 0", 0, "wear uses * 100;", "0 0");
        PinPlan x = ready(2, "", "0 0", 0, "wear (uses = 1) * 100;");
        x.walk(0, 0);
        Edge.due("not at the first USE", x.key(0, 0), 0);
        x.walk(0, 0);
        // the SEEDS are 0, 71: the second chamber
        Edge.due("at the second USE", x.key(0, 0), 1);
        x.walk(0, 0);
        Edge.due("not at the third USE", x.key(0, 0), 1);
        // cut anew it begins again; filed it does not
        x.recut(0, 0);
        x.walk(0, 0);
        Edge.due("not at the first USE", x.key(0, 0), 0);
        x.walk(0, 0);
        Edge.due("at the second USE", x.key(0, 0) != 0, true);
        PinPlan y = ready(2, "", "0 0", 0, "wear (uses = 1) * 100;");
        y.walk(0, 0);
        y.file(0, 0);
        y.walk(0, 0);
        Edge.due("filed and worn", y.key(0, 0), 7);
        // each KEY has its own
        PinPlan z = Edge.told("chambers 2;key a 0 0;key b 0 0;lock l 0/1 0/1;room x;room y;door d from x to y lock l;"
                + "person p in x holds a;person q in x holds b;wear uses * 100;");
        z.walk(0, 0);
        z.walk(1, 0);
        Edge.due("neither is worn", z.key(0, 0) + z.key(1, 0), 0);
        z.walk(1, 0);
        Edge.due("the second one is", z.key(0, 0) * 10 + z.key(1, 0) > 0, true);

        Edge.says("chamber (its number;");
        for (int chambers = 2; chambers <= 5; chambers++) {
            for (int c = 0; c < chambers; c++) {
                String cuts = Edge.repeated(" 0", chambers).trim();
                wears(chambers, "", cuts, chambers * 20 + c, "wear (chamber = " + c + ") * 100;", deeperAt(cuts, c));
                wears(chambers, "", cuts, chambers * 20 + c, "wear (not chamber = " + c + ") * 100;", cuts);
            }
        }
    }

    // ---- what a formula comes to

    /** At the SEED 2 a CUT wears just if wear is above 0; cut is 1, beside 2, uses 0, chamber 0. */
    private static void comesTo(String formula, String worth) {
        wears(2, "", "1 2", 2, "wear (" + formula + ") = (" + worth + ");", "2 2");
        wears(2, "", "1 2", 2, "wear not (" + formula + ") = (" + worth + ");", "1 2");
    }

    private static void arithmetic() {
        Edge.says("ints, wrapping;");
        String least = "2048 * 1024 * 1024";
        comesTo(least + " < 0", "1");
        comesTo(least + " - 1 > 0", "1");
        comesTo("(" + least + " - 1) + 1 < 0", "1");
        comesTo("0 - " + least, least);
        comesTo("2048 * 1024 * 1023 > 0", "1");
        comesTo("4096 * 4096 * 256", "0");
        comesTo("4096 * 4096 * 256 + 1", "1");
        comesTo("9999 * 9999 * 9999", "0 - 1027 * 1000 * 1000 - 349 * 1000 - 969");
        comesTo("0 - 9999", "1 - 9999 - 1");
        comesTo("9999 + 9999", "2 * 9999");

        Edge.says("/ cut, % its rest, both by 0: 0;");
        comesTo("7 / 2", "3");
        comesTo("(0 - 7) / 2", "0 - 3");
        comesTo("7 / (0 - 2)", "0 - 3");
        comesTo("(0 - 7) / (0 - 2)", "3");
        comesTo("1 / 2", "0");
        comesTo("(0 - 1) / 2", "0");
        comesTo("7 % 2", "1");
        comesTo("(0 - 7) % 2", "0 - 1");
        comesTo("7 % (0 - 2)", "1");
        comesTo("(0 - 7) % (0 - 2)", "0 - 1");
        comesTo("6 % 3", "0");
        comesTo("2 % 3", "2");
        comesTo("7 / 0", "0");
        comesTo("7 % 0", "0");
        comesTo("0 / 0", "0");
        comesTo("0 % 0", "0");
        comesTo("(0 - 7) / (cut - 1)", "0");
        comesTo("(0 - 7) % (beside - 2)", "0");
        comesTo("5 + 7 / 0", "5");
        comesTo(least + " / (0 - 1)", least);
        comesTo(least + " % (0 - 1)", "0");
        comesTo("(" + least + " - 1) / (0 - 1) + " + least + " - 1", "0");
    }

    private static void truth() {
        Edge.says("relations, and, or, not are 1 or 0, of what is not 0):");
        String[][] all = {{"1 < 2", "1"}, {"2 < 2", "0"}, {"3 < 2", "0"}, {"1 > 2", "0"}, {"2 > 2", "0"}, {"3 > 2", "1"},
            {"1 = 2", "0"}, {"2 = 2", "1"}, {"3 = 2", "0"}, {"0 - 1 < 0", "1"}, {"0 > 0 - 1", "1"},
            {"0 and 0", "0"}, {"0 and 5", "0"}, {"5 and 0", "0"}, {"5 and 3", "1"}, {"2 and 1", "1"},
            {"0 or 0", "0"}, {"0 or 5", "1"}, {"5 or 0", "1"}, {"5 or 3", "1"}, {"0 - 1 or 0", "1"},
            {"0 - 1 and 0 - 2", "1"}, {"not 0", "1"}, {"not 1", "0"}, {"not 5", "0"}, {"not 0 - 1", "0"},
            {"not not 5", "1"}, {"not not 0", "0"}};
        for (String[] two : all) {
            comesTo(two[0], two[1]);
        }
    }

    private static void deeper() {
        Edge.says("the CUT is 1 deeper, if the BITTING is LEGAL then, and it is below depths;");
        String sizes = "depths 4;step 2;";
        // the middle one: the step from the one ahead, the step of the one behind, the depths
        wears(3, sizes, "1 2 2", 61, "wear 100;", "1 3 2");
        wears(3, sizes, "0 2 2", 61, "wear 100;", "0 2 2");
        wears(3, sizes, "2 2 1", 61, "wear 100;", "2 3 1");
        wears(3, sizes, "2 2 0", 61, "wear 100;", "2 2 0");
        wears(3, sizes, "3 2 3", 61, "wear 100;", "3 3 3");
        wears(3, sizes, "3 3 3", 61, "wear 100;", "3 3 3");
        // toward those next to it it may always
        wears(3, sizes, "2 0 2", 61, "wear 100;", "2 1 2");
        // the first one, the last one
        wears(3, sizes, "1 0 0", 60, "wear 100;", "2 0 0");
        wears(3, sizes, "2 0 0", 60, "wear 100;", "2 0 0");
        wears(3, sizes, "3 3 3", 60, "wear 100;", "3 3 3");
        wears(3, sizes, "2 3 3", 60, "wear 100;", "3 3 3");
        wears(3, sizes, "0 0 1", 62, "wear 100;", "0 0 2");
        wears(3, sizes, "0 0 2", 62, "wear 100;", "0 0 2");
        wears(3, sizes, "3 3 3", 62, "wear 100;", "3 3 3");
        wears(3, "step 0;", "2 2 2", 61, "wear 100;", "2 2 2");
        wears(5, "", "0 0 0 0 5", 504, "wear 100;", "0 0 0 0 5");
        wears(5, "", "0 0 0 0 4", 504, "wear 100;", "0 0 0 0 5");

        Edge.says("the KEY was USED once more.");
        PinPlan x = ready(2, "", "5 5", 0, "wear 100;");
        for (int i = 1; i <= 50; i++) {
            x.walk(0, 0);
            Edge.due("USED", x.key(0, 1), i);
            Edge.due("as deep as before", x.key(0, 0), 35);
        }
        PinPlan y = ready(2, "", "0 0", 0, "wear 100;");
        for (int i = 1; i <= 50; i++) {
            y.walk(0, 0);
            Edge.due("USED, worn or not", y.key(0, 1), i);
        }
    }
}
