/** Where one can come, keys beside keys, what strikes one: the promises 37 to 54, with their Terms (==== 3). */
final class WayEdges {
    private static final int NONE = PinPlan.NONE;
    private static final int MIN = Integer.MIN_VALUE;
    private static final int MAX = Integer.MAX_VALUE;

    // the KEY of each letter opens the LOCK of the same one, m opens k, l and n
    private static final String LOCKS = "chambers 2;key k 0 0;key l 1 1;key n 2 2;key o 3 3;key m 4 4;"
            + "lock k 0/4 0/4;lock l 1/4 1/4;lock n 2/4 2/4;lock o 3 3;room r;room s;room t;room u;room v;room w;";

    private WayEdges() {
    }

    static void all() {
        Edge.promise(0);
        byWhatIsNow();
        reachTerms();
        routeTerms();
        bunchTerms();
        togetherTerms();
        tradeTerms();
        spanAndBookTerms();
        lastsTerms();
        oddsTerms();
        route();
        bunch();
        together();
        comers();
        trade();
        span();
        twin();
        book();
        lasts();
        blanks();
        stuck();
        barred();
        haunted();
        best();
        idle();
        law();
        odds();
        lies();
    }

    private static PinPlan flat() {
        return Edge.told(Edge.FLAT);
    }

    // ---- the Terms

    private static final String[] QUESTION_NAMES = {"key", "cut", "lock", "parts", "door", "person", "opens", "legal",
        "bitting", "rank", "ghosts", "ghost", "common", "master", "cutFor", "filing", "broken", "strays", "keeps",
        "leftOver", "bunch", "together", "comers", "trade", "span", "twin", "book", "lasts", "blanks", "stuck", "barred",
        "haunted", "best", "idle", "law", "odds", "lies", "fits", "sure", "ask", "about", "fault", "person 2"};
    private static final Edge.Call[] QUESTIONS = {x -> x.key(0, 3), x -> x.cut(1, 1), x -> x.lock(0, 1), x -> x.parts(0, 0),
        x -> x.door(0, 0), x -> x.person(0, 1), x -> x.opens(20, 0), x -> x.legal(), x -> x.bitting(7), x -> x.rank(20),
        x -> x.ghosts(0), x -> x.ghost(0, 0), x -> x.common(3, 0), x -> x.master(0), x -> x.cutFor(1, 2),
        x -> x.filing(1, 2, 1), x -> x.broken(0), x -> x.strays(0), x -> x.keeps(0), x -> x.leftOver(0),
        x -> x.bunch(0, 2, 1), x -> x.together(0), x -> x.comers(0), x -> x.trade(0, 1, 0), x -> x.span(0, 1),
        x -> x.twin(0), x -> x.book(5), x -> x.lasts(0, 0), x -> x.blanks(), x -> x.stuck(), x -> x.barred(),
        x -> x.haunted(), x -> x.best(), x -> x.idle(0), x -> x.law(1), x -> x.odds(0, 0), x -> x.lies(0), x -> x.fits(9),
        x -> x.sure(0, 9), x -> x.ask(0, 9), x -> x.about(0), x -> x.fault(0), x -> x.person(1, 2)};

    private static void byWhatIsNow() {
        Edge.says("(By what is now; nothing is done, worn.");
        for (int i = 0; i < QUESTIONS.length; i++) {
            Edge.stays(QUESTION_NAMES[i], Edge::busy, QUESTIONS[i]);
            // asked again it answers the same
            PinPlan x = Edge.busy();
            int first = QUESTIONS[i].on(x);
            Edge.due(QUESTION_NAMES[i] + " again", QUESTIONS[i].on(x), first);
        }
        // a route is no ACT; only what lies there is another one
        PinPlan w = Edge.busy();
        String acted = Edge.acted(w);
        w.route(1, 2);
        Edge.due("a route does nothing", Edge.acted(w).equals(acted), true);
        Edge.due("ACTS", w.about(9) * 10 + w.about(10), 21);
        // what was asked ahead of an ACT does not stick: ACTS, undone, done again, images
        PinPlan x = flat();
        Edge.due("front by 110", x.common(3, 1), 20);
        x.part(0, 0, 1);
        Edge.due("no more", x.common(3, 1), NONE);
        Edge.due("blanks", x.blanks(), 50 - 6);
        x.undo();
        Edge.due("again", x.common(3, 1), 20);
        x.redo();
        Edge.due("no more", x.common(3, 1), NONE);
        x.image(0);
        x.part(0, 0, 1);
        x.part(0, 0, 2);
        Edge.due("more", x.common(1, 0), 6);
        x.back(0);
        Edge.due("as it was kept", x.common(1, 0), 2);
        Tape.put(x, Edge.FLAT.replace("step 2", "step 3"));
        x.plan();
        Edge.due("by the next text", x.blanks(), 64 - 7);
    }

    private static void reachTerms() {
        Edge.says("REACH of one: ROOMS to which he can come through DOORS by what he holds (his own, too).");
        String doors = "door a from r to s lock k;door b from t to s lock l;door c from t to u lock n;door d from v to u lock k;";
        PinPlan x = Edge.told(LOCKS + doors + "person p in s;");
        Edge.due("his own", x.person(0, 2), 2);
        x.give(0, 0);
        Edge.due("by k: r, s", x.person(0, 2), 3);
        x.give(1, 0);
        Edge.due("by k and l, through both sides of a DOOR: t, too", x.person(0, 2), 7);
        x.give(2, 0);
        Edge.due("by all: u, and v by k again", x.person(0, 2), 31);
        x.hang(0);
        Edge.due("without k", x.person(0, 2), 14);
        x.lose(1);
        Edge.due("without l", x.person(0, 2), 2);
        x.hang(2);
        x.give(4, 0);
        Edge.due("by m alone", x.person(0, 2), 31);
        // a USE would wear the KEY at once; nothing is worn
        PinPlan y = Edge.told(LOCKS + doors + "person p in r holds m;wear 100;");
        Edge.due("nothing is worn", y.person(0, 2), 31);
        y.walk(0, 0);
        Edge.due("what is worn", y.person(0, 2), 2);
        // from one end to the other: the DOORS stand the other way round
        PinPlan z = Edge.told(LOCKS + "door a from w to v lock k;door b from v to u lock k;door c from u to t lock k;"
                + "door d from t to s lock k;door e from s to r lock k;person p in r holds k;person q in w holds m;");
        Edge.due("all six", z.person(0, 2), 63);
        Edge.due("all six", z.person(1, 2), 63);
    }

    private static void lieThere(PinPlan x, int... doors) {
        Edge.due("numbers that lie there", x.about(15), doors.length);
        for (int i = 0; i < doors.length; i++) {
            Edge.due("lies(" + i + ")", x.lies(i), doors[i]);
        }
        Edge.due("lies(" + doors.length + ")", x.lies(doors.length), -2);
    }

    private static void routeTerms() {
        Edge.says("ROUTE of one to a ROOM: the fewest DOORS; of like ones the first (DOOR by DOOR: the least number).");
        // r - s - u by 1 2, r - t - u by 3 0, r - v - w - u by 4 5 6
        PinPlan x = Edge.told(LOCKS + "door a from t to u lock k;door b from r to s lock k;door c from s to u lock k;"
                + "door d from r to t lock k;door e from r to v lock k;door f from v to w lock k;door g from u to w lock k;"
                + "person p in r holds k;person q in u;");
        Edge.due("to u", x.route(0, 3), 2);
        lieThere(x, 1, 2);
        Edge.due("to w", x.route(0, 5), 2);
        lieThere(x, 4, 5);
        x.hang(0);
        x.give(0, 1);
        Edge.due("the other way", x.route(1, 0), 2);
        // t by 0 and 3, s by 2 and 1: the first DOOR counts
        lieThere(x, 0, 3);
        // two DOORS between the same ROOMS; the second one's LOCK opens alone
        PinPlan y = Edge.told(LOCKS + "door a from r to s lock l;door b from s to r lock k;door c from r to s lock k;"
                + "person p in r holds k;person q in r holds l;person z in r holds m;");
        Edge.due("route", y.route(0, 1), 1);
        lieThere(y, 1);
        Edge.due("route", y.route(1, 1), 1);
        lieThere(y, 0);
        Edge.due("route", y.route(2, 1), 1);
        lieThere(y, 0);
        // the longest: five DOORS, those of lesser numbers leading elsewhere
        PinPlan z = Edge.told(LOCKS + "door a from w to v lock k;door b from v to u lock k;door c from u to t lock k;"
                + "door d from t to s lock k;door e from s to r lock k;person p in r holds k;");
        Edge.due("route", z.route(0, 5), 5);
        lieThere(z, 4, 3, 2, 1, 0);
        // fewer DOORS come ahead of lesser numbers
        PinPlan w = Edge.told(LOCKS + "door a from r to s lock k;door b from s to t lock k;door c from t to r lock k;"
                + "person p in r holds k;");
        Edge.due("route", w.route(0, 2), 1);
        lieThere(w, 2);
    }

    private static void bunchTerms() {
        Edge.says("BUNCH from a ROOM to another one: the fewest KEYS that are not LOST (whoever has them) by which one comes "
                + "from the one to the other; of like ones the least set as bits.");
        // r - s k, s - t l, t - u n; r - v o, v - u o; k, n and m hang, p holds l, q holds o
        PinPlan x = Edge.told(LOCKS + "door a from r to s lock k;door b from s to t lock l;door c from t to u lock n;"
                + "door d from r to v lock o;door e from v to u lock o;person p in w holds l;person q in s holds o;");
        Edge.due("by k, not by m", x.bunch(0, 1, 1), 1);
        Edge.due("by o, not by m", x.bunch(0, 3, 1), 8);
        Edge.due("by one: m", x.bunch(0, 2, 0), 1);
        Edge.due("by m alone, not by k and l", x.bunch(0, 2, 1), 16);
        x.lose(4);
        Edge.due("without m: k and l", x.bunch(0, 2, 1), 3);
        x.lose(0);
        Edge.due("without k: n and o", x.bunch(0, 2, 1), 12);
        x.lose(3);
        Edge.due("without o: by none", x.bunch(0, 2, 1), NONE);
        x.find(4, 0);
        Edge.due("m again, whoever has it", x.bunch(0, 2, 1), 16);
        // all eight KEYS, of which only the last one opens
        PinPlan y = Edge.told("chambers 2;depths 3;key a 0 0;key b 0 1;key c 0 2;key d 1 0;key e 1 1;key f 1 2;"
                + "key g 2 0;key h 2 2;"
                + "lock l 2 2;room x;room y;door d from y to x lock l;");
        Edge.due("by the eighth", y.bunch(0, 1, 1), 128);
        // five LOCKS of five KEYS
        PinPlan z = Edge.told(LOCKS + "door a from r to s lock k;door b from s to t lock l;door c from t to u lock n;"
                + "door d from u to v lock o;");
        Edge.due("m and o", z.bunch(0, 4, 0) * 100 + z.bunch(0, 4, 1), 224);
        z.lose(4);
        Edge.due("all the others", z.bunch(0, 4, 0) * 100 + z.bunch(0, 4, 1), 415);
    }

    private static void togetherTerms() {
        Edge.says("TOGETHER: two whose REACHES have a ROOM in common hand on all they hold, so both hold what both held, "
                + "and so on, till nothing changes: the REACH of one then.");
        String doors = "door a from r to s lock k;door b from s to t lock l;door c from t to u lock n;door d from u to v lock o;";
        // p comes to s, q is there; with l they come to t, where x is; with n to u, where y is
        PinPlan x = Edge.told(LOCKS + doors + "person p in r holds k;person q in s holds l;person x in u holds n;"
                + "person y in v holds o;");
        for (int p = 0; p < 4; p++) {
            Edge.due("all come everywhere", x.together(p), 31);
        }
        Edge.due("nothing is handed on", x.person(0, 1) * 100 + x.person(0, 2), 103);
        // without what they have in common nothing is handed on
        PinPlan y = Edge.told(LOCKS + doors + "person p in r holds k;person q in t holds n;person x in v;person y in v holds o;");
        Edge.due("p: r, s", y.together(0), 3);
        // q comes to u, y too, so that x, who is with y, has it all
        Edge.due("q: t, u, v", y.together(1), 28);
        Edge.due("x: t, u, v", y.together(2), 28);
        Edge.due("y: t, u, v", y.together(3), 28);
        // each has what the other one needs, but they do not meet
        PinPlan w = Edge.told(LOCKS + "door a from r to s lock k;door b from t to u lock l;person p in r holds l;"
                + "person q in t holds k;");
        Edge.due("they do not meet", w.together(0) * 100 + w.together(1), 104);
        // x and y meet at first; then q meets x; then p, who has nothing, is met by q
        PinPlan v = Edge.told(LOCKS + doors + "person p in r;person q in t holds l;person x in v holds o;"
                + "person y in v holds k n;");
        Edge.due("alone", v.person(0, 2) * 1000000 + v.person(1, 2) * 10000 + v.person(2, 2) * 100 + v.person(3, 2), 1062416);
        for (int p = 0; p < 4; p++) {
            Edge.due("all, in the end", v.together(p), 31);
        }
        // the same, numbered the other way round
        PinPlan u = Edge.told(LOCKS + doors + "person y in v holds k n;person x in v holds o;person q in t holds l;"
                + "person p in r;");
        for (int p = 0; p < 4; p++) {
            Edge.due("all, in the end", u.together(p), 31);
        }
        // two in one ROOM who hold nothing
        PinPlan z = Edge.told(LOCKS + doors + "person p in r;person q in r;person x in s holds k;");
        Edge.due("x comes to r", z.together(0) * 100 + z.together(1), 303);
        z.lose(0);
        Edge.due("nobody comes anywhere", z.together(0) * 100 + z.together(2), 102);
    }

    private static void tradeTerms() {
        Edge.says("TRADE of two: a KEY of the one and a KEY of the other by whose exchange the REACH of each would be of more "
                + "ROOMS than now (where they are now; wherever that is); of like ones the first (the first one's least KEY, "
                + "then the other one's).");
        String text = "chambers 2;key a 0 0;key b 1 1;key c 1 1;key d 0 0;key e 2 2;key f 2 2;lock k 0 0;lock l 1 1;lock n 2 2;"
                + "room r;room s;room t;room u;room v;room w;door x from r to s lock k;door y from t to u lock l;"
                + "door z from s to v lock n;";
        // p in r needs a or d, q in t needs b or c; e and f do nothing but behind k
        PinPlan x = Edge.told(text + "person p in r holds b c e;person q in t holds a d f;");
        Edge.due("the first of each", x.trade(0, 1, 0) * 10 + x.trade(0, 1, 1), 10);
        Edge.due("the other way round", x.trade(1, 0, 0) * 10 + x.trade(1, 0, 1), 1);
        x.hang(1);
        Edge.due("the next one", x.trade(0, 1, 0) * 10 + x.trade(0, 1, 1), 20);
        x.hang(0);
        Edge.due("the next one of the other", x.trade(0, 1, 0) * 10 + x.trade(0, 1, 1), 23);
        x.hang(2);
        Edge.due("q would not come farther by e", x.trade(0, 1, 0), NONE);
        // just as many ROOMS are not more
        PinPlan y = Edge.told(text + "person p in r holds a b;person q in t holds d;");
        Edge.due("p would come as far as now", y.trade(0, 1, 0), NONE);
        Edge.due("and the other way", y.trade(1, 0, 0), NONE);
        // by the exchange one loses a KEY: not if that was as good
        PinPlan z = Edge.told(text + "person p in r holds b e;person q in t holds a;");
        Edge.due("b for a", z.trade(0, 1, 0) * 10 + z.trade(0, 1, 1), 10);
        PinPlan w = Edge.told(text + "person p in u holds b;person q in t holds a;");
        Edge.due("where they are now: p is behind l", w.trade(0, 1, 0), NONE);
        // in the same ROOM
        PinPlan v = Edge.told(text + "person p in r holds b;person q in r holds f;");
        Edge.due("neither would come farther", v.trade(0, 1, 0), NONE);
        v.give(0, 0);
        Edge.due("p, who opens k, by f; q by a, but p loses it", v.trade(0, 1, 0), NONE);
        Edge.due("and the other way", v.trade(1, 0, 0), NONE);
        v.give(3, 0);
        Edge.due("p has d still", v.trade(0, 1, 0) * 10 + v.trade(0, 1, 1), 5);
    }

    private static void spanAndBookTerms() {
        Edge.says("SPAN of two KEYS: how far their CUTS are from one another, together.");
        PinPlan x = Edge.told("key a 0 0 0 0 0;key b 5 5 5 5 5;key c 0 1 2 1 0;key d 1 0 1 2 1;");
        int[][] all = {{0, 25, 4, 5}, {25, 0, 21, 20}, {4, 21, 0, 5}, {5, 20, 5, 0}};
        for (int a = 0; a < 4; a++) {
            for (int b = 0; b < 4; b++) {
                Edge.due("span(" + a + ", " + b + ")", x.span(a, b), all[a][b]);
            }
        }

        Edge.says("BOOK: LEGAL BITTINGS by their NUMBERS, each that differs from all in the BOOK ahead of it in two chambers "
                + "at least.");
        for (int[] size : new int[][] {{2, 2, 0}, {2, 2, 1}, {2, 6, 1}, {2, 6, 5}, {3, 2, 1}, {3, 4, 2}, {4, 3, 1}, {5, 2, 1},
            {5, 6, 5}, {5, 6, 1}}) {
            writeBook(size[0], size[1], size[2]);
        }
    }

    /** The BOOK as its sentence says it, beside what the object tells. */
    private static void writeBook(int chambers, int depths, int step) {
        PinPlan x = Edge.told("chambers " + chambers + ";depths " + depths + ";step " + step + ";");
        int[][] book = new int[8000][];
        int written = 0;
        for (int number = 0; number < Edge.power(depths, chambers); number++) {
            int[] cuts = Edge.digits(number, chambers, depths);
            boolean in = Edge.legal(cuts, step);
            for (int i = 0; i < written && in; i++) {
                int unlike = 0;
                for (int c = 0; c < chambers; c++) {
                    unlike += Edge.one(book[i][c] != cuts[c]);
                }
                in = unlike >= 2;
            }
            if (in) {
                if (written < 60) {
                    Edge.due("book(" + written + ")", x.book(written), number);
                }
                book[written] = cuts;
                written++;
            }
        }
        if (written < 60) {
            Edge.due("book(" + written + "), behind the last one", x.book(written), NONE);
        }
    }

    private static void lastsTerms() {
        Edge.says("LASTS a KEY at a LOCK: how many USES it stands, one behind the other, by the SEED as it is, "
                + "till it does not OPEN it any more.");
        PinPlan x = flat();
        // seeds 30, 181, 868: red 012, 112, 122
        Edge.due("red at front", x.lasts(0, 0), 2);
        Edge.due("blue at front: 210", x.lasts(1, 0), 1);
        Edge.due("old at vault: 321, 331", x.lasts(2, 2), 2);
        x.walk(0, 0);
        Edge.due("one less", x.lasts(0, 0), 1);
        Edge.due("by the SEED as it is: blue 120", x.lasts(1, 0), 1);
        Edge.due("at back it stands that one", x.lasts(1, 1) > 1, true);
        x.undo();
        Edge.due("two again", x.lasts(0, 0), 2);
        // as many as walks
        String text = "chambers 2;key a 0 0;lock l 0/1/2/3 0/1/2/3;room x;room y;door d from x to y lock l;person p in x holds a;"
                + "wear 40;draw ";
        for (int draw = 0; draw < 30; draw++) {
            PinPlan y = Edge.told(text + draw + ";");
            int lasts = y.lasts(0, 0);
            int walks = 0;
            while (walks < 300 && y.walk(0, 0) != NONE) {
                walks++;
            }
            Edge.due("walks", walks, lasts);
        }
        // how often it was USED counts; a LOST one may be asked, too
        PinPlan z = Edge.told("chambers 2;key a 0 0;lock l 0 0;room x;room y;door d from x to y lock l;person p in x holds a;"
                + "wear (uses > 2) * 100;");
        Edge.due("new", z.lasts(0, 0), 4);
        z.walk(0, 0);
        Edge.due("USED once", z.lasts(0, 0), 3);
        z.lose(0);
        Edge.due("LOST", z.lasts(0, 0), 3);
        z.recut(0, 0);
        Edge.due("cut anew", z.lasts(0, 0), 4);
    }

    private static void oddsTerms() {
        Edge.says("ODDS of a LOCK: that a LEGAL BITTING, all being as likely, OPENS it.");
        // 00, 01, 10, 11, 12, 21, 22 are LEGAL, of which 00, 10, 12 open
        PinPlan x = Edge.told("chambers 2;depths 3;step 1;key a 0 0;lock l 0/1 0/2;");
        Edge.due("3 of 7", x.odds(0, 0) * 10 + x.odds(0, 1), 37);
        x.part(0, 0, 2);
        Edge.due("4 of 7: 22, too", x.odds(0, 0) * 10 + x.odds(0, 1), 47);
    }

    // ---- ways

    private static void route() {
        Edge.promise(37);
        Edge.says("ROUTE: how many DOORS (0: he is there);");
        PinPlan x = flat();
        Edge.due("ann is there", x.route(0, 0), 0);
        Edge.due("to the study", x.route(0, 1), 1);
        Edge.due("bob to the cellar", x.route(1, 2), 1);
        Edge.due("cid is there", x.route(2, 1), 0);

        Edge.says("NONE if he can't come, or one can't be.");
        Edge.due("ann to the cellar", x.route(0, 2), NONE);
        Edge.due("bob to the loft", x.route(1, 3), NONE);
        Edge.due("cid anywhere", x.route(2, 0), NONE);
        for (int n : Edge.outside(3)) {
            Edge.due("route(" + n + ", 0)", x.route(n, 0), NONE);
        }
        for (int n : Edge.outside(4)) {
            Edge.due("route(0, " + n + ")", x.route(0, n), NONE);
        }

        Edge.says("DOORS lie there then, in order (behind NONE: nothing).");
        x.route(1, 2);
        lieThere(x, 1);
        x.route(1, 1);
        lieThere(x);
        int[][] none = {{0, 2}, {1, 3}, {3, 0}, {-1, 0}, {0, 4}, {0, -1}, {MAX, MIN}};
        for (int[] two : none) {
            x.route(1, 0);
            lieThere(x, 0);
            x.route(two[0], two[1]);
            lieThere(x);
        }
        // what is done leaves them, a plan does not
        x.route(1, 2);
        x.walk(1, 1);
        x.hang(0);
        x.undo();
        x.image(0);
        x.back(0);
        lieThere(x, 1);
        x.plan();
        lieThere(x);
    }

    private static void bunch() {
        Edge.promise(38);
        Edge.says("BUNCH what 0: how many KEYS (0: both are one), 1: which, as bits;");
        PinPlan x = flat();
        for (int room = 0; room < 4; room++) {
            Edge.due("both are one", x.bunch(room, room, 0), 0);
            Edge.due("both are one", x.bunch(room, room, 1), 0);
        }
        Edge.due("hall to study", x.bunch(0, 1, 0) * 10 + x.bunch(0, 1, 1), 11);
        Edge.due("hall to cellar: blue, not old", x.bunch(0, 2, 0) * 10 + x.bunch(0, 2, 1), 12);
        Edge.due("the other way", x.bunch(2, 0, 0) * 10 + x.bunch(2, 0, 1), 12);

        Edge.says("NONE if by none, or one can't be.");
        for (int what = 0; what < 2; what++) {
            Edge.due("to the loft", x.bunch(0, 3, what), NONE);
            for (int n : Edge.outside(4)) {
                Edge.due("bunch(" + n + ", 0, " + what + ")", x.bunch(n, 0, what), NONE);
                Edge.due("bunch(0, " + n + ", " + what + ")", x.bunch(0, n, what), NONE);
            }
        }
        for (int n : Edge.outside(4)) {
            Edge.due("bunch(" + n + ", " + n + ", 0)", x.bunch(n, n, 0), NONE);
        }
        for (int what : Edge.beside(0, 1)) {
            Edge.due("bunch(0, 1, " + what + ")", x.bunch(0, 1, what), NONE);
            Edge.due("bunch(0, 0, " + what + ")", x.bunch(0, 0, what), NONE);
        }
        for (int k = 0; k < 4; k++) {
            x.lose(k);
        }
        Edge.due("all are LOST", x.bunch(0, 1, 0), NONE);
        Edge.due("both are one", x.bunch(0, 0, 0), 0);
    }

    private static void together() {
        Edge.promise(39);
        Edge.says("TOGETHER, as bits;");
        PinPlan x = flat();
        for (int p = 0; p < 3; p++) {
            Edge.due("together(" + p + ")", x.together(p), 7);
        }
        PinPlan alone = Edge.told("room a;room b;person p in b;");
        Edge.due("one alone", alone.together(0), 2);

        Edge.says("NONE if there is none such.");
        for (int n : Edge.outside(3)) {
            Edge.due("together(" + n + ")", x.together(n), NONE);
        }
    }

    private static void comers() {
        Edge.promise(40);
        Edge.says("PEOPLE to whose REACH a ROOM belongs, as bits;");
        PinPlan x = flat();
        int[] all = {3, 7, 2, 0};
        for (int room = 0; room < 4; room++) {
            Edge.due("comers(" + room + ")", x.comers(room), all[room]);
        }
        PinPlan four = Edge.told("room a;person p in a;person q in a;person x in a;person y in a;");
        Edge.due("all four", four.comers(0), 15);

        Edge.says("NONE if there is none such.");
        for (int n : Edge.outside(4)) {
            Edge.due("comers(" + n + ")", x.comers(n), NONE);
        }
    }

    private static void trade() {
        Edge.promise(41);
        Edge.says("TRADE what 0: the first one's KEY, 1: the other one's;");
        String text = LOCKS + "door a from r to s lock k;door b from t to u lock l;person p in r holds o l;"
                + "person q in t holds k n;person x in w;";
        PinPlan x = Edge.told(text);
        Edge.due("the first one's", x.trade(0, 1, 0), 1);
        Edge.due("the other one's", x.trade(0, 1, 1), 0);
        Edge.due("the first one's", x.trade(1, 0, 0), 0);
        Edge.due("the other one's", x.trade(1, 0, 1), 1);

        Edge.says("NONE if there are none, both are one, or one can't be.");
        for (int what = 0; what < 2; what++) {
            Edge.due("who holds none", x.trade(0, 2, what), NONE);
            Edge.due("who holds none", x.trade(2, 1, what), NONE);
            for (int p = 0; p < 3; p++) {
                Edge.due("both are one", x.trade(p, p, what), NONE);
            }
            for (int n : Edge.outside(3)) {
                Edge.due("trade(" + n + ", 0, " + what + ")", x.trade(n, 0, what), NONE);
                Edge.due("trade(0, " + n + ", " + what + ")", x.trade(0, n, what), NONE);
            }
        }
        for (int what : Edge.beside(0, 1)) {
            Edge.due("trade(0, 1, " + what + ")", x.trade(0, 1, what), NONE);
        }
        // the HOOK, and who has LOST ones, are none to trade with
        PinPlan y = Edge.told(LOCKS + "door a from r to s lock k;door b from t to u lock l;person p in t holds k;");
        Edge.due("with the HOOK", y.trade(0, -1, 0), NONE);
        Edge.due("with the HOOK", y.trade(-1, 0, 0), NONE);
        y.lose(1);
        Edge.due("with nobody", y.trade(0, -2, 0), NONE);
        Edge.due("with nobody", y.trade(-2, 0, 0), NONE);
    }

    // ---- keys beside keys

    private static void span() {
        Edge.promise(42);
        Edge.says("SPAN;");
        PinPlan x = flat();
        int[][] all = {{0, 3, 5, 3}, {3, 0, 4, 4}, {5, 4, 0, 2}, {3, 4, 2, 0}};
        for (int a = 0; a < 4; a++) {
            for (int b = 0; b < 4; b++) {
                Edge.due("span(" + a + ", " + b + ")", x.span(a, b), all[a][b]);
            }
        }
        Edge.says("NONE if one can't be.");
        for (int n : Edge.outside(4)) {
            Edge.due("span(" + n + ", 0)", x.span(n, 0), NONE);
            Edge.due("span(0, " + n + ")", x.span(0, n), NONE);
            Edge.due("span(" + n + ", " + n + ")", x.span(n, n), NONE);
        }
    }

    private static void twin() {
        Edge.promise(43);
        Edge.says("The other KEY of the least SPAN; of like ones the first;");
        PinPlan x = flat();
        int[] all = {1, 0, 3, 2};
        for (int k = 0; k < 4; k++) {
            Edge.due("twin(" + k + ")", x.twin(k), all[k]);
        }
        x.recut(3, 6);
        x.lose(3);
        Edge.due("the very same, LOST", x.twin(0), 3);
        PinPlan same = Edge.told("chambers 2;key a 0 0;key b 0 0;key c 0 0;");
        Edge.due("all alike", same.twin(0) * 100 + same.twin(1) * 10 + same.twin(2), 100);

        Edge.says("NONE if there is no other one, or no such KEY.");
        Edge.due("no other one", Edge.told("chambers 2;key a 0 0;").twin(0), NONE);
        Edge.due("one other one", Edge.told("chambers 2;key a 0 0;key b 5 5;").twin(0), 1);
        for (int n : Edge.outside(4)) {
            Edge.due("twin(" + n + ")", x.twin(n), NONE);
        }
    }

    private static void book() {
        Edge.promise(44);
        Edge.says("The n-th (0 .. 59) NUMBER in the BOOK;");
        PinPlan x = new PinPlan();
        Edge.due("book(0)", x.book(0), 0);
        Edge.due("book(1)", x.book(1), 7);
        Edge.due("book(59)", x.book(59) > x.book(58), true);

        Edge.says("NONE if there is none such.");
        for (int n : Edge.beside(0, 59)) {
            Edge.due("book(" + n + ")", x.book(n), NONE);
        }
        PinPlan small = Edge.told("chambers 2;depths 3;");
        // 00, 11, 22
        Edge.due("the last one", small.book(2), 8);
        Edge.due("behind it", small.book(3), NONE);
        Edge.due("far behind it", small.book(59), NONE);
        // what an earlier text had there is not there any more
        x.book(59);
        Tape.put(x, "chambers 2;depths 3;");
        x.plan();
        Edge.due("behind the last one", x.book(3), NONE);
    }

    /** A KEY that wears at the USE of this number (0 ..), and not ahead of it. */
    private static PinPlan wearingAt(int use) {
        return Edge.told("chambers 2;key a 0 0;lock l 0 0;lock m 1 1;wear (uses = " + use + ") * 100;");
    }

    private static void lasts() {
        Edge.promise(45);
        Edge.says("LASTS (0 .. 200; 0: it does not OPEN it now);");
        Edge.due("it does not open it now", wearingAt(0).lasts(0, 1), 0);
        for (int use : new int[] {0, 1, 2, 197, 198, 199}) {
            Edge.due("lasts", wearingAt(use).lasts(0, 0), use + 1);
        }

        Edge.says("NONE if more, or one can't be.");
        for (int use : new int[] {200, 201, 202, 9999}) {
            Edge.due("more", wearingAt(use).lasts(0, 0), NONE);
        }
        Edge.due("for ever", Edge.told("chambers 2;key a 0 0;lock l 0 0;").lasts(0, 0), NONE);
        PinPlan x = flat();
        for (int n : Edge.outside(4)) {
            Edge.due("lasts(" + n + ", 0)", x.lasts(n, 0), NONE);
        }
        for (int n : Edge.outside(3)) {
            Edge.due("lasts(0, " + n + ")", x.lasts(0, n), NONE);
        }
    }

    // ---- what strikes one

    private static void blanks() {
        Edge.promise(46);
        Edge.says("How many LEGAL BITTINGS OPEN no LOCK at all.");
        Edge.due("blanks", flat().blanks(), 43);
        Edge.due("without LOCKS", new PinPlan().blanks(), 7776);
        PinPlan x = Edge.told("chambers 2;depths 2;lock l 0 0/1;lock m 1 0;");
        Edge.due("11 alone", x.blanks(), 1);
        x.part(1, 1, 1);
        Edge.due("none", x.blanks(), 0);
        Edge.due("a LOCK that no LEGAL one opens", Edge.told("chambers 2;depths 2;step 0;lock l 0 1;").blanks(), 2);
    }

    private static void stuck() {
        Edge.promise(47);
        Edge.says("LOCKS that no KEY OPENS that is not LOST, as bits.");
        PinPlan x = flat();
        Edge.due("none", x.stuck(), 0);
        x.lose(0);
        Edge.due("blue opens front, too", x.stuck(), 0);
        x.lose(1);
        Edge.due("front and back", x.stuck(), 3);
        x.lose(2);
        Edge.due("all", x.stuck(), 7);
        x.find(1, 2);
        Edge.due("vault", x.stuck(), 4);
        Edge.due("without KEYS", Edge.told("chambers 2;lock a 0 0;lock b 0 0;").stuck(), 3);
        Edge.due("without LOCKS", new PinPlan().stuck(), 0);
    }

    private static void barred() {
        Edge.promise(48);
        Edge.says("ROOMS to which nobody can come (no REACH has them), as bits.");
        PinPlan x = flat();
        Edge.due("the loft", x.barred(), 8);
        x.hang(1);
        Edge.due("the cellar, too", x.barred(), 12);
        x.give(2, 0);
        Edge.due("by old", x.barred(), 8);
        Edge.due("without PEOPLE", Edge.told("room a;room b;room c;room d;room e;room f;").barred(), 63);
        Edge.due("without ROOMS", new PinPlan().barred(), 0);
        Edge.due("each is in one", Edge.told("room a;room b;person p in b;person q in a;").barred(), 0);
    }

    private static void haunted() {
        Edge.promise(49);
        Edge.says("The LOCK of the most GHOSTS; of like ones the first; NONE without LOCKS.");
        PinPlan x = flat();
        Edge.due("front", x.haunted(), 0);
        x.recut(3, 22);
        Edge.due("one each: the first", x.haunted(), 0);
        x.recut(2, 4);
        // front none, back one, vault two
        Edge.due("vault", x.haunted(), 2);
        x.recut(3, 59);
        Edge.due("one each: the first", x.haunted(), 0);
        Edge.due("none at all: the first", Edge.told("chambers 2;key a 0 0;lock l 0 0;lock m 0 0;").haunted(), 0);
        Edge.due("without LOCKS", new PinPlan().haunted(), NONE);
        Edge.due("without LOCKS", Edge.told("chambers 2;key a 0 0;").haunted(), NONE);
    }

    private static void best() {
        Edge.promise(50);
        Edge.says("The KEY that OPENS the most LOCKS; of like ones the first; NONE without KEYS.");
        PinPlan x = flat();
        Edge.due("blue", x.best(), 1);
        x.lose(1);
        Edge.due("LOST", x.best(), 1);
        x.recut(1, 42);
        Edge.due("one each: the first", x.best(), 0);
        x.recut(0, 42);
        Edge.due("old alone opens one", x.best(), 2);
        x.recut(2, 42);
        Edge.due("none opens any: the first", x.best(), 0);
        Edge.due("without LOCKS", Edge.told("chambers 2;key a 0 0;key b 0 0;").best(), 0);
        Edge.due("without KEYS", new PinPlan().best(), NONE);
        Edge.due("without KEYS", Edge.told("chambers 2;lock l 0 0;").best(), NONE);
    }

    private static void idle() {
        Edge.promise(51);
        Edge.says("KEYS that hang on the HOOK (what 0), that are LOST (1), as bits;");
        PinPlan x = flat();
        Edge.due("on the HOOK", x.idle(0), 12);
        Edge.due("LOST", x.idle(1), 0);
        x.hang(0);
        x.lose(2);
        Edge.due("on the HOOK", x.idle(0), 9);
        Edge.due("LOST", x.idle(1), 4);
        Edge.due("without KEYS", new PinPlan().idle(0) + new PinPlan().idle(1), 0);

        Edge.says("NONE for another what.");
        for (int what : Edge.beside(0, 1)) {
            Edge.due("idle(" + what + ")", x.idle(what), NONE);
        }
    }

    private static void law() {
        Edge.promise(52);
        Edge.says("How many BITTINGS were LEGAL, if step told n (0 .. 5);");
        // whatever step is
        for (int step = 0; step <= 5; step++) {
            PinPlan x = Edge.told("chambers 3;depths 4;step " + step + ";");
            int[] all = {4, 26, 50, 64, 64, 64};
            for (int n = 0; n <= 5; n++) {
                Edge.due("law(" + n + ")", x.law(n), all[n]);
            }
            Edge.due("as many as are", x.law(step), x.legal());
        }
        Edge.due("law(0)", new PinPlan().law(0), 6);
        Edge.due("law(4)", new PinPlan().law(4) < 7776, true);
        Edge.due("law(5)", new PinPlan().law(5), 7776);

        Edge.says("NONE for another n.");
        for (int n : Edge.beside(0, 5)) {
            Edge.due("law(" + n + ")", new PinPlan().law(n), NONE);
        }
    }

    private static void odds() {
        Edge.promise(53);
        Edge.says("ODDS the upper part (0), the lower part (1), in lowest terms (0 of 1);");
        PinPlan x = flat();
        // 4, 2, 2 of 50
        int[][] all = {{2, 25}, {1, 25}, {1, 25}};
        for (int l = 0; l < 3; l++) {
            Edge.due("odds(" + l + ", 0)", x.odds(l, 0), all[l][0]);
            Edge.due("odds(" + l + ", 1)", x.odds(l, 1), all[l][1]);
        }
        PinPlan y = Edge.told("chambers 2;depths 3;step 0;lock l 0 1;lock m 0/1/2 0/1/2;lock n 0/1 0/1;");
        Edge.due("0 of 1", y.odds(0, 0) * 10 + y.odds(0, 1), 1);
        Edge.due("1 of 1", y.odds(1, 0) * 10 + y.odds(1, 1), 11);
        Edge.due("2 of 3", y.odds(2, 0) * 10 + y.odds(2, 1), 23);
        PinPlan z = Edge.told("lock l 0 0 0 0 0;");
        Edge.due("1 of 7,776", z.odds(0, 0) * 10000 + z.odds(0, 1), 17776);

        Edge.says("NONE if one can't be.");
        for (int n : Edge.outside(3)) {
            Edge.due("odds(" + n + ", 0)", x.odds(n, 0), NONE);
            Edge.due("odds(" + n + ", 1)", x.odds(n, 1), NONE);
        }
        for (int part : Edge.beside(0, 1)) {
            Edge.due("odds(0, " + part + ")", x.odds(0, part), NONE);
        }
    }

    private static void lies() {
        Edge.promise(54);
        Edge.says("The i-th number of what lies there;");
        PinPlan x = flat();
        x.give(2, 0);
        x.route(0, 2);
        Edge.due("lies(0)", x.lies(0), 2);
        // the loft apart: hall to study to cellar
        PinPlan y = flat();
        y.hang(1);
        y.give(1, 0);
        y.route(0, 2);
        Edge.due("lies(0)", y.lies(0), 0);
        Edge.due("lies(1)", y.lies(1), 1);

        Edge.says("-2 if there is none such.");
        for (int i : new int[] {2, 3, 6, 7, 32, MAX, -1, -2, MIN}) {
            Edge.due("lies(" + i + ")", y.lies(i), -2);
        }
        Edge.due("at first", new PinPlan().lies(0), -2);
        y.route(0, 0);
        Edge.due("he is there", y.lies(0), -2);
    }
}
