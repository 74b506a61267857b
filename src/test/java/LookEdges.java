/** What is now and which keys could be cut: the promises 6 to 12 and 24 to 36, with their Terms (==== 3). */
final class LookEdges {
    private static final int NONE = PinPlan.NONE;
    private static final int MIN = Integer.MIN_VALUE;
    private static final int MAX = Integer.MAX_VALUE;
    private static final int NO_KEY = -3;

    private LookEdges() {
    }

    static void all() {
        Edge.promise(0);
        ghostTerms();
        masterTerms();
        filingTerms();
        brokenTerms();
        strayTerms();
        recutTerms();
        leftOverTerms();
        key();
        cut();
        lock();
        parts();
        door();
        person();
        opens();
        legal();
        bitting();
        rank();
        ghosts();
        ghost();
        common();
        master();
        cutFor();
        filing();
        broken();
        strays();
        keeps();
        leftOver();
    }

    private static PinPlan flat() {
        return Edge.told(Edge.FLAT);
    }

    // ---- the Terms

    private static void ghostTerms() {
        Edge.says("A GHOST of a LOCK is a LEGAL BITTING that OPENS it and that no KEY has (LOST ones are KEYS, too).");
        // 00, 10, 12 open it; 02 would, but is not LEGAL
        PinPlan x = Edge.told("chambers 2;depths 3;step 1;key a 1 0;key b 1 0;key c 2 2;lock l 0/1 0/2;lock m 0 2;");
        Edge.due("GHOSTS", x.ghosts(0), 2);
        Edge.due("the first", x.ghost(0, 0), 0);
        Edge.due("the second", x.ghost(0, 1), 5);
        Edge.due("none is LEGAL", x.ghosts(1), 0);
        x.lose(0);
        x.lose(1);
        Edge.due("LOST ones are KEYS", x.ghosts(0), 2);
        x.recut(0, 8);
        Edge.due("another KEY has it still", x.ghosts(0), 2);
        x.recut(1, 8);
        Edge.due("no KEY has it", x.ghosts(0), 3);
        Edge.due("the second", x.ghost(0, 1), 3);
        x.recut(0, 0);
        x.recut(1, 3);
        x.recut(2, 5);
        Edge.due("KEYS have them all", x.ghosts(0), 0);
    }

    private static void masterTerms() {
        Edge.says("MASTER: the LEGAL BITTING that OPENS the most LOCKS.");
        // 10, 11 and 21 open two; 20 would open three, but is not LEGAL
        PinPlan x = Edge.told("chambers 2;depths 3;step 1;lock a 0/2/1 0/1;lock b 2/1 1/0;lock c 2 0;");
        Edge.due("its NUMBER", x.master(0), 3);
        Edge.due("its LOCKS", x.master(2), 3);
        // it may be one that KEYS have
        PinPlan y = Edge.told("chambers 2;depths 3;key a 2 2;lock a 2 2;");
        Edge.due("a KEY's", y.master(0), 8);
        // none opens
        PinPlan z = Edge.told("chambers 2;depths 3;step 0;lock a 1 2;");
        Edge.due("none opens: the least", z.master(0) * 10 + z.master(1), 0);
        StringBuilder six = new StringBuilder("chambers 2;");
        for (int l = 0; l < 6; l++) {
            six.append("lock ").append((char) ('a' + l)).append(" 5/").append(l % 5).append(" 5;");
        }
        PinPlan w = Edge.told(six.toString());
        Edge.due("all six", w.master(0) * 100 + w.master(2), 3563);

        Edge.says("Of like BITTINGS the one with the least NUMBER.)");
        PinPlan v = Edge.told("chambers 2;depths 3;step 2;lock a 2 2;lock b 1 0;lock c 2 0;lock d 0/1 1/2;");
        // each of 01, 02, 10, 11, 12, 20, 22 opens one
        Edge.due("the least", v.master(0), 1);
        PinPlan u = Edge.told("chambers 2;depths 3;step 2;lock d 0/1 1/2;lock c 2 0;lock b 1 0;lock a 2 2;");
        Edge.due("the least, of another LOCK", u.master(0) * 10 + u.master(2), 11);
        Edge.due("the least of several", v.cutFor(8, 0), 1);
        Edge.due("the least of several", v.common(8, 1), 1);
        Edge.due("the least that opens none", v.cutFor(0, 15), 0);
    }

    private static void filingTerms() {
        Edge.says("FILING of a KEY for a LOCK: the LEGAL BITTING that OPENS it, no CUT of which is less deep than the KEY's, "
                + "by the least depth in all; of like ones the least NUMBER.");
        // two of the same depth never are the least: what has the lesser CUT of both everywhere is LEGAL and opens, too
        PinPlan x = Edge.told("chambers 3;depths 6;step 2;key a 1 2 3;lock l 1/3 2/4 3/5;lock m 0/2 5 0/4;lock n 0 2 3;"
                + "lock o 1 2 2;lock p 5 1/2 3;lock q 4/5 2/3/5 3;");
        Edge.due("it opens as it is", x.filing(0, 0, 0) * 1000 + x.filing(0, 0, 1), 51);
        // 254 is not LEGAL: from 2 to 5
        Edge.due("no LEGAL one", x.filing(0, 1, 0), NONE);
        Edge.due("less deep ahead", x.filing(0, 2, 1), NONE);
        Edge.due("less deep behind", x.filing(0, 3, 0), NONE);
        // 523 is not LEGAL, and 513 is less deep, too
        Edge.due("no LEGAL one", x.filing(0, 4, 1), NONE);
        // 423 is LEGAL: 3 deeper; by 433 it is 4, by 453 it is 6
        Edge.due("the least", x.filing(0, 5, 0) * 1000 + x.filing(0, 5, 1), 3159);
        x.recut(0, 159);
        Edge.due("it is so deep", x.filing(0, 5, 0) * 1000 + x.filing(0, 5, 1), 159);
        x.file(0, 1);
        Edge.due("one deeper", x.filing(0, 5, 0) * 1000 + x.filing(0, 5, 1), 165);
        x.file(0, 1);
        Edge.due("to the next", x.filing(0, 5, 0) * 1000 + x.filing(0, 5, 1), 1177);
        x.file(0, 2);
        Edge.due("too deep", x.filing(0, 5, 0), NONE);
        // a CUT that stays 0, ahead and behind
        PinPlan n = Edge.told("chambers 3;depths 6;key a 0 0 0;lock l 0/1 0/3 0/5;lock m 2 0/1 3;lock o 0 4 0/1;");
        Edge.due("000", n.filing(0, 0, 0) * 1000 + n.filing(0, 0, 1), 0);
        Edge.due("203", n.filing(0, 1, 0) * 1000 + n.filing(0, 1, 1), 5075);
        Edge.due("040", n.filing(0, 2, 0) * 1000 + n.filing(0, 2, 1), 4024);
        // the first one is so deep that the next can't stay as it is
        PinPlan d = Edge.told("chambers 2;depths 6;step 1;key a 0 0;lock l 5 1/4;");
        Edge.due("54", d.filing(0, 0, 0) * 100 + d.filing(0, 0, 1), 934);
        // what is next must go deeper, for the step's sake
        PinPlan y = Edge.told("chambers 2;depths 6;step 1;key a 0 0;lock l 0/2/5 3/4;");
        Edge.due("23", y.filing(0, 0, 0) * 100 + y.filing(0, 0, 1), 515);
        y.part(0, 1, 3);
        Edge.due("54", y.filing(0, 0, 0) * 100 + y.filing(0, 0, 1), 934);
    }

    private static void brokenTerms() {
        Edge.says("BROKEN is the plan at a KEY and a LOCK if it must and does not OPEN, or never may and does.");
        for (String rule : new String[] {"must a l;", "never a l;", ""}) {
            PinPlan x = Edge.told("chambers 2;key a 0 0;lock l 0 0;lock m 1 1;" + rule);
            boolean never = rule.startsWith("never");
            Edge.due("it opens: " + rule, x.broken(0), Edge.one(never));
            x.file(0, 0);
            Edge.due("it does not open: " + rule, x.broken(0), Edge.one(rule.startsWith("must")));
            x.file(0, 1);
            x.part(0, 0, 1);
            x.part(0, 1, 1);
            Edge.due("it opens: " + rule, x.broken(0), Edge.one(never));
            x.lose(0);
            Edge.due("a LOST one: " + rule, x.broken(0), Edge.one(never));
        }
    }

    private static void strayTerms() {
        Edge.says("STRAY is a KEY at a LOCK if it never may and would OPEN it, were each LOCK for which some KEY must "
                + "pinned for just these (other LOCKS as they are).");
        // pinned for a and b, l would open for c: 00 and 11 let 01 in
        PinPlan x = Edge.told("chambers 2;depths 3;key a 0 0;key b 1 1;key c 0 1;key d 2 2;lock l 2 2;lock m 2 2;"
                + "must a l;must b l;never c l;never d l;never d m;");
        Edge.due("c at l, d at m", x.strays(0), 2);
        Edge.due("the first KEY", x.strays(1), 2);
        Edge.due("its LOCK", x.strays(2), 0);
        Edge.due("as it is pinned l is open to d", x.broken(0), 4);
        // however l is pinned, m as it is
        x.part(1, 0, 1);
        x.part(1, 0, 2);
        x.part(0, 0, 1);
        Edge.due("c at l", x.strays(0), 1);
        // the LOST ones that must count, too
        x.lose(0);
        x.lose(1);
        x.lose(2);
        Edge.due("c at l", x.strays(0), 1);
        x.recut(1, 0);
        Edge.due("a and b alike: none", x.strays(0), 0);
        x.recut(2, 0);
        Edge.due("c as they are", x.strays(0), 1);
        // one that need not is let in and is not STRAY
        PinPlan y = Edge.told("chambers 2;depths 3;key a 0 0;key b 0 0;lock l 0 0;must a l;");
        Edge.due("none", y.strays(0), 0);
    }

    private static void recutTerms() {
        Edge.says("RECUT of a KEY: the LEGAL BITTING by which, were it cut so, no KEY would be STRAY anywhere.");
        PinPlan x = Edge.told("chambers 2;depths 2;key a 0 0;key b 0 1;key c 1 1;lock l 0 0;must a l;must c l;never b l;");
        // with 11: 00 and 01 let 01 in, 10 does not
        Edge.due("a", x.keeps(0), 2);
        // by 00 and 11 all are let in
        Edge.due("b", x.keeps(1), NONE);
        // with 00: 00 alone
        Edge.due("c", x.keeps(2), 0);
        x.recut(0, x.keeps(0));
        Edge.due("it is so then", x.strays(0), 0);
        Edge.due("b may be as it is not by 10 and 11", x.keeps(1), 0);
        // not LEGAL is no way out: of 00, 11 and 22 only 22 is not let in
        PinPlan y = Edge.told("chambers 2;depths 3;step 0;key a 0 0;key b 1 1;key c 0 0;lock l 0 0;must a l;must b l;never c l;");
        Edge.due("c", y.keeps(2), 8);
        PinPlan w = Edge.told("chambers 2;depths 2;step 0;key a 0 0;key b 1 1;key c 0 0;lock l 0 0;must a l;must b l;never c l;");
        Edge.due("none", w.keeps(2), NONE);
        // another one's straying elsewhere is not mended by it; other LOCKS are as they are
        PinPlan z = Edge.told("chambers 2;depths 2;key a 0 0;key b 1 1;lock l 0 0;lock m 1 1;must a l;never b m;");
        Edge.due("b strays at m", z.strays(0), 1);
        Edge.due("a can't mend it", z.keeps(0), NONE);
        Edge.due("b can", z.keeps(1), 0);
        z.part(1, 0, 0);
        z.part(1, 0, 1);
        Edge.due("m is pinned otherwise", z.keeps(0), 0);
        // the first KEY at the first LOCK, the last one at the last
        PinPlan first = Edge.told("chambers 2;depths 2;key a 0 1;key b 0 0;key c 1 1;lock l 0 0;lock m 0 0;must b l;"
                + "must c l;never a l;");
        Edge.due("b, with 11: 10", first.keeps(1), 2);
        Edge.due("c, with 00: 00", first.keeps(2), 0);
        Edge.due("a can't", first.keeps(0), NONE);
        PinPlan last = Edge.told("chambers 2;depths 2;key b 0 0;key c 1 1;key a 0 1;lock m 0 0;lock l 0 0;must b l;"
                + "must c l;never a l;");
        Edge.due("b, with 11: 10", last.keeps(0), 2);
        Edge.due("a can't", last.keeps(2), NONE);
        PinPlan free = Edge.told("chambers 2;depths 2;key a 1 1;key b 0 0;lock l 1 1;lock m 0 0;never a l;");
        Edge.due("b can't mend what a does at the first LOCK", free.keeps(1), NONE);
        Edge.due("a can", free.keeps(0), 0);
        // many never may, and the last one of them at the last LOCK counts, too: 00 would let it in
        StringBuilder many = new StringBuilder("chambers 2;key a 5 5;key b 0 0;");
        for (int i = 0; i < 6; i++) {
            many.append("key ").append((char) ('c' + i)).append(" 1 ").append(i).append(";lock ").append((char) ('k' + i));
            many.append(" 5 5;");
        }
        for (int i = 0; i < 36; i++) {
            char lock = (char) ('k' + i / 6);
            many.append(i % 6 == 0 ? "must a " + lock + ";" : "");
            many.append(i < 30 ? "never " + (char) ('c' + i % 6) + " " + lock + ";" : i == 30 ? "never b " + lock + ";" : "");
        }
        Edge.due("a", Edge.told(many.toString()).keeps(0), 1);
        // one that nothing is said of may be anything, if none strays
        PinPlan v = Edge.told("chambers 2;depths 2;key a 1 1;");
        Edge.due("the least", v.keeps(0), 0);
    }

    private static void leftOverTerms() {
        Edge.says("LEFT OVER of a KEY: LOCKS for which another KEY must that it would OPEN, "
                + "were they pinned for just the other ones that must.");
        PinPlan x = Edge.told("chambers 2;depths 2;key a 0 0;key b 0 0;key c 1 1;key d 0 1;lock l 1 1;lock m 0 0;lock n 0/1 0/1;"
                + "lock o 0 0;must a l;must b l;must a m;must c n;must b n;never d o;");
        // l: by b, as a is; m: no other one must; n: by b and c
        Edge.due("a", x.leftOver(0), 5);
        // l and m by a, n by c alone
        Edge.due("b", x.leftOver(1), 3);
        // n by b alone; l, m by 00
        Edge.due("c", x.leftOver(2), 0);
        // n by b and c; it never may, which does not matter
        Edge.due("d", x.leftOver(3), 4);
        x.recut(3, 0);
        x.lose(3);
        x.lose(0);
        Edge.due("d as a, LOST ones, too", x.leftOver(3), 7);
    }

    // ---- what is now

    private static void key() {
        Edge.promise(6);
        Edge.says("Of a KEY what 0: the NUMBER of its BITTING, 1: how often it was USED, 2: who holds it (-1: the HOOK, "
                + "-2: LOST), 3: LOCKS that it OPENS, as bits;");
        PinPlan x = Edge.busy();
        int[][] all = {{6, 0, 0, 1}, {36, 1, 1, 0}, {57, 0, -1, 4}, {42, 0, -2, 0}};
        for (int k = 0; k < 4; k++) {
            for (int what = 0; what < 4; what++) {
                Edge.due("key(" + k + ", " + what + ")", x.key(k, what), all[k][what]);
            }
        }
        x.pin(0, 8);
        x.pin(1, 8);
        x.pin(2, 8);
        Edge.due("a LOST one opens all", x.key(3, 3), 7);

        Edge.says("-3 if there is none such, or for another what.");
        for (int n : Edge.outside(4)) {
            for (int what = 0; what < 4; what++) {
                Edge.due("key(" + n + ", " + what + ")", x.key(n, what), NO_KEY);
            }
            Edge.due("key(0, " + n + ")", x.key(0, n), NO_KEY);
        }
    }

    private static void cut() {
        Edge.promise(7);
        Edge.says("The CUT of a KEY in a chamber;");
        PinPlan x = flat();
        int[][] cuts = {{0, 1, 2}, {1, 1, 0}, {3, 2, 1}, {2, 2, 2}};
        for (int k = 0; k < 4; k++) {
            for (int c = 0; c < 3; c++) {
                Edge.due("cut(" + k + ", " + c + ")", x.cut(k, c), cuts[k][c]);
            }
        }
        Edge.says("NONE if one can't be.");
        for (int n : Edge.outside(4)) {
            Edge.due("cut(" + n + ", 0)", x.cut(n, 0), NONE);
        }
        for (int n : Edge.outside(3)) {
            Edge.due("cut(0, " + n + ")", x.cut(0, n), NONE);
        }
    }

    private static void lock() {
        Edge.promise(8);
        Edge.says("Of a LOCK what 0: how many PARTS it has, all chambers together, 1: KEYS that OPEN it, 2: those that must, "
                + "3: those that never may, as bits;");
        PinPlan x = flat();
        int[][] all = {{5, 3, 3, 4}, {4, 2, 2, 1}, {4, 4, 0, 0}};
        for (int l = 0; l < 3; l++) {
            for (int what = 0; what < 4; what++) {
                Edge.due("lock(" + l + ", " + what + ")", x.lock(l, what), all[l][what]);
            }
        }
        x.lose(0);
        Edge.due("a LOST one opens it", x.lock(0, 1), 3);
        PinPlan most = Edge.told("lock l 0/1/2/3/4/5 0/1/2/3/4/5 0/1/2/3/4/5 0/1/2/3/4/5 0/1/2/3/4/5;lock m 0 0 0 0 0;");
        Edge.due("the most PARTS", most.lock(0, 0), 30);
        Edge.due("the fewest PARTS", most.lock(1, 0), 5);
        Edge.due("no KEYS", most.lock(0, 1), 0);

        Edge.says("NONE if there is none such, or for another what.");
        for (int n : Edge.outside(3)) {
            for (int what = 0; what < 4; what++) {
                Edge.due("lock(" + n + ", " + what + ")", x.lock(n, what), NONE);
            }
        }
        for (int what : Edge.beside(0, 3)) {
            Edge.due("lock(0, " + what + ")", x.lock(0, what), NONE);
        }
    }

    private static void parts() {
        Edge.promise(9);
        Edge.says("PARTS of a LOCK in a chamber, as bits;");
        PinPlan x = flat();
        int[][] all = {{3, 2, 5}, {2, 6, 1}, {8, 4, 10}};
        for (int l = 0; l < 3; l++) {
            for (int c = 0; c < 3; c++) {
                Edge.due("parts(" + l + ", " + c + ")", x.parts(l, c), all[l][c]);
            }
        }
        Edge.says("NONE if one can't be.");
        for (int n : Edge.outside(3)) {
            Edge.due("parts(" + n + ", 0)", x.parts(n, 0), NONE);
            Edge.due("parts(0, " + n + ")", x.parts(0, n), NONE);
        }
    }

    private static void door() {
        Edge.promise(10);
        Edge.says("Of a DOOR what 0: from, 1: to, 2: its LOCK;");
        PinPlan x = flat();
        int[][] all = {{0, 1, 0}, {1, 2, 1}, {0, 2, 2}};
        for (int d = 0; d < 3; d++) {
            for (int what = 0; what < 3; what++) {
                Edge.due("door(" + d + ", " + what + ")", x.door(d, what), all[d][what]);
            }
        }
        Edge.says("NONE if there is none such, or for another what.");
        for (int n : Edge.outside(3)) {
            for (int what = 0; what < 3; what++) {
                Edge.due("door(" + n + ", " + what + ")", x.door(n, what), NONE);
            }
            Edge.due("door(0, " + n + ")", x.door(0, n), NONE);
        }
    }

    private static void person() {
        Edge.promise(11);
        Edge.says("Of one of the PEOPLE what 0: his ROOM, 1: KEYS that he holds, 2: REACH, both as bits;");
        PinPlan x = flat();
        int[][] all = {{0, 1, 3}, {1, 2, 7}, {1, 0, 2}};
        for (int p = 0; p < 3; p++) {
            for (int what = 0; what < 3; what++) {
                Edge.due("person(" + p + ", " + what + ")", x.person(p, what), all[p][what]);
            }
        }
        Edge.says("NONE if there is none such, or for another what.");
        for (int n : Edge.outside(3)) {
            for (int what = 0; what < 3; what++) {
                Edge.due("person(" + n + ", " + what + ")", x.person(n, what), NONE);
            }
            Edge.due("person(0, " + n + ")", x.person(0, n), NONE);
        }
    }

    private static void opens() {
        Edge.promise(12);
        Edge.says("Whether a LEGAL BITTING OPENS a LOCK: 1, 0;");
        PinPlan x = flat();
        for (int number = 0; number < 64; number++) {
            boolean is = number == 4 || number == 6 || number == 20 || number == 22;
            if (Edge.legal(Edge.digits(number, 3, 4), 2)) {
                Edge.due("opens(" + number + ", 0)", x.opens(number, 0), Edge.one(is));
            }
        }
        x.part(0, 0, 3);
        Edge.due("310 is LEGAL and opens it now", x.opens(52, 0), 1);

        Edge.says("NONE if it is not LEGAL, or one can't be.");
        PinPlan y = flat();
        // 003 is not, though 3 may be a PART; 64 has too many digits
        for (int number : new int[] {3, 12, 15, 48, 51, 60, 64, 68, 84, 4096 + 20, -1, -20, MIN, MAX}) {
            Edge.due("opens(" + number + ", 0)", y.opens(number, 0), NONE);
        }
        for (int n : Edge.outside(3)) {
            Edge.due("opens(20, " + n + ")", y.opens(20, n), NONE);
        }
    }

    // ---- keys that could be cut

    private static int countLegal(int chambers, int depths, int step) {
        int count = 0;
        for (int number = 0; number < Edge.power(depths, chambers); number++) {
            count += Edge.one(Edge.legal(Edge.digits(number, chambers, depths), step));
        }
        return count;
    }

    private static String sizes(int chambers, int depths, int step) {
        return "chambers " + chambers + ";depths " + depths + ";step " + step + ";";
    }

    private static void legal() {
        Edge.promise(24);
        Edge.says("How many LEGAL BITTINGS there are.");
        for (int chambers = 2; chambers <= 5; chambers++) {
            for (int depths = 2; depths <= 6; depths++) {
                for (int step = 0; step <= 5; step++) {
                    String text = sizes(chambers, depths, step);
                    Edge.due(text + " legal()", Edge.told(text).legal(), countLegal(chambers, depths, step));
                }
            }
        }
        Edge.due("of all", new PinPlan().legal(), 7776);
        Edge.due("the fewest", Edge.told(sizes(2, 2, 0)).legal(), 2);
    }

    private static void bitting() {
        Edge.promise(25);
        Edge.says("The NUMBER of the i-th (0 ..) LEGAL BITTING, by NUMBERS;");
        int[][] all = {{2, 2, 0}, {2, 6, 1}, {3, 4, 2}, {4, 3, 1}, {5, 2, 5}, {5, 3, 0}};
        for (int[] size : all) {
            PinPlan x = Edge.told(sizes(size[0], size[1], size[2]));
            int i = 0;
            for (int number = 0; number < Edge.power(size[1], size[0]); number++) {
                if (Edge.legal(Edge.digits(number, size[0], size[1]), size[2])) {
                    Edge.due("bitting(" + i + ")", x.bitting(i), number);
                    i++;
                }
            }
            Edge.due("behind the last one", x.bitting(i), NONE);
        }
        PinPlan large = new PinPlan();
        Edge.due("bitting(7775)", large.bitting(7775), 7775);

        Edge.says("NONE if there is none such.");
        for (int i : new int[] {7776, 7777, -1, -2, MIN, MAX}) {
            Edge.due("bitting(" + i + ")", large.bitting(i), NONE);
        }
        Edge.due("the 50th of 50", flat().bitting(49), 63);
        Edge.due("the 51st of 50", flat().bitting(50), NONE);
    }

    private static void rank() {
        Edge.promise(26);
        Edge.says("The how-manieth (0 ..) LEGAL BITTING it is;");
        PinPlan x = flat();
        int i = 0;
        for (int number = 0; number < 64; number++) {
            if (Edge.legal(Edge.digits(number, 3, 4), 2)) {
                Edge.due("rank(" + number + ")", x.rank(number), i);
                i++;
            }
        }
        Edge.due("the last one", new PinPlan().rank(7775), 7775);

        Edge.says("NONE if it is none.");
        for (int number : new int[] {3, 12, 15, 48, 51, 60, 64, 65, 128, -1, -63, MIN, MAX}) {
            Edge.due("rank(" + number + ")", x.rank(number), NONE);
        }
        for (int number : new int[] {7776, 7777, 6 * 7776, -1, MIN, MAX}) {
            Edge.due("rank(" + number + ")", new PinPlan().rank(number), NONE);
        }
    }

    private static void ghosts() {
        Edge.promise(27);
        Edge.says("How many GHOSTS a LOCK has;");
        PinPlan x = flat();
        Edge.due("GHOSTS", x.ghosts(0) * 100 + x.ghosts(1) * 10 + x.ghosts(2), 211);
        PinPlan all = Edge.told("lock l 0/1/2/3/4/5 0/1/2/3/4/5 0/1/2/3/4/5 0/1/2/3/4/5 0/1/2/3/4/5;");
        Edge.due("without KEYS", all.ghosts(0), 7776);
        PinPlan none = Edge.told("chambers 2;step 0;key a 0 0;lock l 0 1;lock m 0 0;");
        Edge.due("none is LEGAL", none.ghosts(0), 0);
        Edge.due("a KEY has the only one", none.ghosts(1), 0);

        Edge.says("NONE if there is none such.");
        for (int n : Edge.outside(3)) {
            Edge.due("ghosts(" + n + ")", x.ghosts(n), NONE);
        }
        Edge.due("without LOCKS", new PinPlan().ghosts(0), NONE);
    }

    private static void ghost() {
        Edge.promise(28);
        Edge.says("The NUMBER of the i-th (0 ..) GHOST of a LOCK;");
        PinPlan x = flat();
        Edge.due("ghost(0, 0)", x.ghost(0, 0), 4);
        Edge.due("ghost(0, 1)", x.ghost(0, 1), 22);
        Edge.due("ghost(1, 0)", x.ghost(1, 0), 24);
        Edge.due("ghost(2, 0)", x.ghost(2, 0), 59);
        // KEYS ahead of it, behind it, between, as many as may be
        StringBuilder text = new StringBuilder("chambers 2;depths 4;lock l 0/1/2/3 0/1/2/3;");
        int[] numbers = {0, 1, 2, 4, 8, 14, 15, 15};
        for (int k = 0; k < 8; k++) {
            text.append("key ").append((char) ('a' + k)).append(' ').append(numbers[k] / 4).append(' ');
            text.append(numbers[k] % 4).append(';');
        }
        PinPlan y = Edge.told(text.toString());
        int[] left = {3, 5, 6, 7, 9, 10, 11, 12, 13};
        for (int i = 0; i < left.length; i++) {
            Edge.due("ghost(0, " + i + ")", y.ghost(0, i), left[i]);
        }
        Edge.due("how many", y.ghosts(0), left.length);
        // eight KEYS ahead of the only one
        PinPlan z = Edge.told("chambers 2;depths 3;key a 0 0;key b 0 1;key c 0 2;key d 1 0;key e 1 1;key f 1 2;key g 2 0;"
                + "key h 2 1;lock l 0/1/2 0/1/2;");
        Edge.due("behind eight", z.ghost(0, 0), 8);
        Edge.due("no more", z.ghost(0, 1), NONE);

        Edge.says("NONE if there is none such.");
        Edge.due("behind the last one", y.ghost(0, left.length), NONE);
        for (int i : new int[] {2, 3, 7775, 7776, -1, -2, MIN, MAX}) {
            Edge.due("ghost(0, " + i + ")", x.ghost(0, i), NONE);
        }
        for (int n : Edge.outside(3)) {
            Edge.due("ghost(" + n + ", 0)", x.ghost(n, 0), NONE);
        }
        PinPlan all = Edge.told("lock l 0/1/2/3/4/5 0/1/2/3/4/5 0/1/2/3/4/5 0/1/2/3/4/5 0/1/2/3/4/5;");
        Edge.due("the last of all", all.ghost(0, 7775), 7775);
        Edge.due("behind it", all.ghost(0, 7776), NONE);
        PinPlan none = Edge.told("chambers 2;key a 0 0;lock l 0 0;");
        Edge.due("a LOCK without GHOSTS", none.ghost(0, 0), NONE);
    }

    private static void common() {
        Edge.promise(29);
        Edge.says("Of LEGAL BITTINGS that OPEN all of some LOCKS (as bits) what 0: how many there are, 1: the least NUMBER;");
        PinPlan x = flat();
        int[] counts = {50, 4, 2, 1, 2, 0, 0, 0};
        int[] leasts = {0, 4, 20, 20, 57, NONE, NONE, NONE};
        for (int locks = 0; locks < 8; locks++) {
            Edge.due("common(" + locks + ", 0)", x.common(locks, 0), counts[locks]);
        }

        Edge.says("NONE if there are none (0 of what 0), there are not such LOCKS, or for another what.");
        for (int locks = 0; locks < 8; locks++) {
            Edge.due("common(" + locks + ", 1)", x.common(locks, 1), leasts[locks]);
        }
        for (int locks : new int[] {8, 9, 15, 64, -1, -8, MIN, MIN | 1, MAX}) {
            Edge.due("common(" + locks + ", 0)", x.common(locks, 0), NONE);
            Edge.due("common(" + locks + ", 1)", x.common(locks, 1), NONE);
        }
        for (int what : Edge.beside(0, 1)) {
            Edge.due("common(1, " + what + ")", x.common(1, what), NONE);
            Edge.due("common(7, " + what + ")", x.common(7, what), NONE);
        }
        Edge.due("no LOCKS", new PinPlan().common(0, 0), 7776);
        Edge.due("no such LOCK", new PinPlan().common(1, 0), NONE);
    }

    private static void master() {
        Edge.promise(30);
        Edge.says("MASTER what 0: its NUMBER, 1: how many LOCKS it OPENS, 2: which, as bits;");
        PinPlan x = flat();
        Edge.due("its NUMBER", x.master(0), 20);
        Edge.due("how many", x.master(1), 2);
        Edge.due("which", x.master(2), 3);
        PinPlan none = new PinPlan();
        Edge.due("without LOCKS", none.master(0) * 100 + none.master(1) * 10 + none.master(2), 0);
        x.pin(2, 2);
        Edge.due("all three", x.master(1) * 10 + x.master(2), 37);

        Edge.says("NONE for another what.");
        for (int what : Edge.beside(0, 2)) {
            Edge.due("master(" + what + ")", x.master(what), NONE);
        }
    }

    private static void cutFor() {
        Edge.promise(31);
        Edge.says("The least NUMBER of a LEGAL BITTING that OPENS all of some LOCKS and none of others (both as bits);");
        PinPlan x = flat();
        int[][] all = {{0, 0, 0}, {0, 7, 0}, {1, 0, 4}, {1, 2, 4}, {1, 6, 4}, {2, 0, 20}, {2, 1, 24}, {3, 0, 20}, {3, 4, 20},
            {4, 3, 57}};
        for (int[] three : all) {
            Edge.due("cutFor(" + three[0] + ", " + three[1] + ")", x.cutFor(three[0], three[1]), three[2]);
        }
        // it may be one that a KEY has, and one must not open a single one of the others
        PinPlan y = Edge.told("chambers 2;depths 2;lock a 0 0;lock b 0 0/1;lock c 0/1 0;");
        Edge.due("of b, not of a", y.cutFor(2, 1), 1);
        Edge.due("not of a, not of b", y.cutFor(0, 3), 2);
        Edge.due("of none", y.cutFor(0, 7), 3);

        Edge.says("NONE if there is none, or there are not such LOCKS.");
        Edge.due("none opens all", x.cutFor(5, 0), NONE);
        for (int locks = 1; locks < 8; locks++) {
            Edge.due("the same ones", x.cutFor(locks, locks), NONE);
        }
        Edge.due("one of both", x.cutFor(3, 2), NONE);
        Edge.due("all that open a open b", y.cutFor(1, 2), NONE);
        for (int locks : new int[] {8, 9, 64, -1, MIN, MAX}) {
            Edge.due("cutFor(" + locks + ", 0)", x.cutFor(locks, 0), NONE);
            Edge.due("cutFor(0, " + locks + ")", x.cutFor(0, locks), NONE);
        }
        PinPlan full = Edge.told("chambers 2;depths 2;lock a 0/1 0/1;");
        Edge.due("all open it", full.cutFor(0, 1), NONE);
    }

    private static void filing() {
        Edge.promise(32);
        Edge.says("FILING what 0: how deep in all, 1: the NUMBER then;");
        PinPlan x = flat();
        int[][] all = {{0, 0, 0, 6}, {0, 2, 5, 59}, {1, 0, 0, 20}, {1, 1, 0, 20}, {1, 2, 4, 57}, {2, 2, 0, 57}, {3, 2, 2, 59}};
        for (int[] four : all) {
            Edge.due("how deep", x.filing(four[0], four[1], 0), four[2]);
            Edge.due("the NUMBER", x.filing(four[0], four[1], 1), four[3]);
        }
        Edge.says("NONE if there is none, or one can't be.");
        int[][] none = {{0, 1}, {2, 0}, {2, 1}, {3, 0}, {3, 1}};
        for (int[] two : none) {
            Edge.due("none", x.filing(two[0], two[1], 0), NONE);
            Edge.due("none", x.filing(two[0], two[1], 1), NONE);
        }
        for (int n : Edge.outside(4)) {
            Edge.due("filing(" + n + ", 0, 0)", x.filing(n, 0, 0), NONE);
        }
        for (int n : Edge.outside(3)) {
            Edge.due("filing(0, " + n + ", 0)", x.filing(0, n, 0), NONE);
        }
        for (int what : Edge.beside(0, 1)) {
            Edge.due("filing(0, 0, " + what + ")", x.filing(0, 0, what), NONE);
        }
    }

    // ---- where the plan is kept

    private static void broken() {
        Edge.promise(33);
        Edge.says("Where the plan is BROKEN what 0: at how many, 1: the first KEY, 2: its first LOCK (NONE if it is not);");
        PinPlan x = flat();
        Edge.due("nowhere", x.broken(0), 0);
        Edge.due("no KEY", x.broken(1), NONE);
        Edge.due("no LOCK", x.broken(2), NONE);
        x.pin(1, 1);
        // red opens back and never may, blue does not and must
        Edge.due("at two", x.broken(0), 2);
        Edge.due("red", x.broken(1), 0);
        Edge.due("back", x.broken(2), 1);
        x.pin(0, 8);
        // red and blue must and do not, too
        Edge.due("at four", x.broken(0), 4);
        Edge.due("red", x.broken(1), 0);
        Edge.due("front comes first", x.broken(2), 0);
        x.pin(0, 4 + 2);
        x.pin(1, 2);
        // red at front; old at front
        Edge.due("at two", x.broken(0), 2);
        x.recut(0, 20);
        // red, as blue: it opens back
        Edge.due("at two", x.broken(0) * 100 + x.broken(1) * 10 + x.broken(2), 201);
        x.recut(0, 57);
        // old alone
        Edge.due("at one", x.broken(0) * 100 + x.broken(1) * 10 + x.broken(2), 120);

        Edge.says("NONE for another what.");
        for (int what : Edge.beside(0, 2)) {
            Edge.due("broken(" + what + ")", x.broken(what), NONE);
        }
    }

    private static void strays() {
        Edge.promise(34);
        Edge.says("Where a KEY is STRAY: likewise.");
        PinPlan x = flat();
        Edge.due("nowhere", x.strays(0), 0);
        Edge.due("no KEY", x.strays(1), NONE);
        Edge.due("no LOCK", x.strays(2), NONE);
        // 112 is let in by 012 and 110
        x.recut(2, 22);
        Edge.due("old at front", x.strays(0) * 100 + x.strays(1) * 10 + x.strays(2), 120);
        x.recut(0, 20);
        // red and blue are 110: red at back; old, 112, not any more
        Edge.due("red at back", x.strays(0) * 100 + x.strays(1) * 10 + x.strays(2), 101);
        x.recut(2, 20);
        Edge.due("red first", x.strays(0) * 100 + x.strays(1) * 10 + x.strays(2), 201);
        for (int what : Edge.beside(0, 2)) {
            Edge.due("strays(" + what + ")", x.strays(what), NONE);
        }
    }

    private static void keeps() {
        Edge.promise(35);
        Edge.says("RECUT of a KEY: the NUMBER;");
        PinPlan x = flat();
        for (int k = 0; k < 4; k++) {
            Edge.due("keeps(" + k + ")", x.keeps(k), 0);
        }
        // blue 000: red may not be let in at back, where blue alone must
        x.recut(1, 0);
        Edge.due("red", x.keeps(0), 1);
        // and by red 012 and blue 000 front lets 000, 002, 010, 012 in: old may be 001
        Edge.due("old", x.keeps(2), 1);

        Edge.says("NONE if there is none, or no such KEY.");
        x.recut(0, 0);
        // red is let in at back whatever old is
        Edge.due("old can't mend it", x.keeps(2), NONE);
        Edge.due("red can", x.keeps(0), 1);
        for (int n : Edge.outside(4)) {
            Edge.due("keeps(" + n + ")", x.keeps(n), NONE);
        }
        Edge.due("no KEYS", new PinPlan().keeps(0), NONE);
    }

    private static void leftOver() {
        Edge.promise(36);
        Edge.says("LEFT OVER, as bits;");
        PinPlan x = flat();
        for (int k = 0; k < 4; k++) {
            Edge.due("leftOver(" + k + ")", x.leftOver(k), 0);
        }
        x.recut(3, 20);
        Edge.due("odd as blue: front and back", x.leftOver(3), 3);
        Edge.due("blue: none of it", x.leftOver(1), 0);
        x.recut(0, 20);
        Edge.due("blue: front by red", x.leftOver(1), 1);
        Edge.due("red: front by blue, and back", x.leftOver(0), 3);

        Edge.says("NONE if there is none such.");
        for (int n : Edge.outside(4)) {
            Edge.due("leftOver(" + n + ")", x.leftOver(n), NONE);
        }
    }
}
