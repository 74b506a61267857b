/** The Terms of the text (==== 1), sentence by sentence: the limits of a PLAN and the FAULTS. */
final class TextEdges {
    private static final int NONE = PinPlan.NONE;
    private static final String SMALL = "chambers 2;depths 3;step 1;";
    private static final String THINGS = SMALL + "key a 0 1;key b 2 2;lock l 0/1 1;lock m 2 2;room x;room y;";
    private static final String[] OWN_WORDS = {"chambers", "depths", "step", "key", "lock", "room", "door", "from", "to",
        "person", "in", "holds", "must", "never", "wear", "draw", "or", "and", "not", "cut", "beside", "uses",
        "chamber"};

    private TextEdges() {
    }

    static void all() {
        Edge.promise(0);
        length();
        lines();
        formulas();
        tokens();
        blanks();
        ownWords();
        sizes();
        keys();
        cuts();
        locks();
        rooms();
        doors();
        people();
        rules();
        wearAndDraw();
        units();
        within();
        placesOfFaults();
        misplaced();
        toldAlready();
        numbersThatCannotBe();
        unknownNames();
    }

    private static int planned(String text, int what) {
        return Edge.told(text).about(what);
    }

    private static void length() {
        Edge.says("A PLAN is a text of at most 1,600 bytes (empty at first): plan = {line}.");
        Edge.due("the TAPE at first", new PinPlan().about(13), 0);
        Edge.due("plan() of nothing", new PinPlan().plan(), 0);
        String end = "room z;";
        for (int bytes = 1599; bytes <= 1600; bytes++) {
            PinPlan x = new PinPlan();
            Tape.put(x, Edge.repeated(" ", bytes - end.length()) + end);
            Edge.due("bytes", x.about(13), bytes);
            Edge.due("plan() of " + bytes, x.plan(), 0);
            Edge.due("ROOMS", x.about(2), 1);
        }
        // a byte more does not come: the last ; lacks
        PinPlan x = new PinPlan();
        Tape.put(x, Edge.repeated(" ", 1594) + "room z");
        Edge.due("one byte more", x.feed(';' << 24, 0, 0, 0, 0), NONE);
        Edge.due("plan() of 1,600", x.plan(), NONE);
        Edge.due("at the end", x.fault(1), 1600);
        Edge.good("room a;");
        Edge.good("room a;room b;");
    }

    private static void lines() {
        Edge.says("line = chambers N ; | depths N ; | step N ; | key NAME N {N} ; | lock NAME part {part} ; | room NAME ; "
                + "| door NAME from NAME to NAME lock NAME ; | person NAME in NAME [holds NAME {NAME}] ; "
                + "| must NAME NAME ; | never NAME NAME ; | wear e ; | draw N ;.");
        String[] whole = {"chambers 3 ;", "depths 3 ;", "step 3 ;", "key k 0 0 ;", "lock k 0 0 ;", "room r ;",
            "door d from x to y lock l ;", "person p in x ;", "person p in x holds a ;", "person p in x holds a b ;",
            "must a l ;", "never a l ;", "wear 1 ;", "draw 1 ;"};
        for (String line : whole) {
            boolean size = line.startsWith("chambers") || line.startsWith("depths") || line.startsWith("step");
            String begun = size ? "" : THINGS;
            Edge.good(begun + line);
            Edge.good(begun + line + "room z;");
            // it ends behind each TOKEN, or one stands there that can't
            for (String token : line.split(" ")) {
                Edge.bad(2, begun + "^)");
                Edge.bad(2, begun + "^) " + token);
                begun += token + " ";
                if (!token.equals(";")) {
                    Edge.bad(2, begun + "^");
                }
            }
            Edge.bad(2, begun + "^;");
        }
        Edge.bad(2, THINGS + "person p in x holds ^;");
        Edge.bad(2, THINGS + "must a l ^m;");
        Edge.bad(2, "room x ^y;");

        Edge.says("part = N {/ N}.");
        Edge.good("lock l 0 1 2 3 4;");
        Edge.due("one depth each", planned("lock l 0 1 2 3 4;", 1), 1);
        Edge.due("six in one", Edge.told("lock l 0/1/2/3/4/5 1 2 3 4;").parts(0, 0), 63);
        Edge.bad(2, "lock l ^/0 1 2 3 4;");
        Edge.bad(2, "lock l 0/^/1 1 2 3 4;");
        Edge.bad(2, "lock l 0 1 2 3 4/^;");
    }

    /** What wear comes to, as far as it tells: whether a USE at the SEED 36 (3 then, 0 of ten) wears 0 to 1. */
    private static void worth(String formula, boolean above0) {
        PinPlan x = Edge.told("chambers 2;key k 0 0;lock l 0 0;draw 36;wear " + formula + ";");
        Edge.due("wear " + formula + " is above 0", x.lasts(0, 0) == 1, above0);
    }

    private static void formulas() {
        Edge.says("e = both {or both}. both = one {and one}. one = not one | sum [(< | > | =) sum]. "
                + "sum = term {(+ | -) term}. term = unit {(* | / | %) unit}. "
                + "unit = N | cut | beside | uses | chamber | ( e ).");
        worth("1 or 0 and 0", true);
        worth("0 and 0 or 1", true);
        worth("0 or 0 or 1", true);
        worth("1 and 1 and 0", false);
        worth("not 0 and 0", false);
        worth("not (0 and 0)", true);
        worth("not 1 < 0", true);
        worth("(not 1) < 0", false);
        worth("not not 1", true);
        worth("1 + 1 < 3", true);
        worth("1 < 1 + 1", true);
        worth("2 - 1 - 1", false);
        worth("2 - (1 - 1)", true);
        worth("1 + 0 * 5 - 1", false);
        worth("8 / 4 / 2 - 1", false);
        worth("8 / (4 / 2) - 1", true);
        worth("7 % 4 % 3", false);
        worth("7 % (4 % 3)", false);
        worth("3 * 5 % 10 - 5", false);
        worth("cut or beside or uses", false);
        worth("chamber", true);
        Edge.bad(2, "wear ^;");
        Edge.bad(2, "wear ^or 1;");
        Edge.bad(2, "wear 1 or ^;");
        Edge.bad(2, "wear 1 and ^or 1;");
        Edge.bad(2, "wear 1 or ^or 1;");
        Edge.bad(2, "wear not ^;");
        Edge.bad(2, "wear 1 ^not 1;");
        Edge.bad(2, "wear 1 < ^not 1;");
        Edge.bad(2, "wear 1 < 2 ^> 3;");
        Edge.bad(2, "wear 1 = 2 ^= 3;");
        Edge.bad(2, "wear ^< 1;");
        Edge.bad(2, "wear ^+ 1;");
        Edge.bad(2, "wear 1 - ^- 1;");
        Edge.bad(2, "wear 1 * ^;");
        Edge.bad(2, "wear 1 % ^* 1;");
        Edge.bad(2, "wear 1 * ^not 1;");
        Edge.bad(2, "wear (^);");
        Edge.bad(2, "wear (1^;");
        Edge.bad(2, "wear 1^);");
        Edge.bad(2, "wear cut ^cut;");
        Edge.bad(2, "wear 2 ^(3);");
        Edge.bad(2, "wear ^chambers;");
        Edge.bad(2, "wear ^a;");
    }

    private static void tokens() {
        Edge.says("TOKENS: words (a .. z, 8 at most),");
        Edge.good("room a;room z;room abcdefg;room abcdefgh;");
        Edge.bad(1, "room ^abcdefghi;");
        Edge.bad(1, "room ^abcdefghijklmnopqrstuvwxyz;");
        Edge.bad(1, "room ^`;");
        Edge.bad(1, "room ^{;");
        Edge.bad(1, "room ^A;");
        Edge.bad(1, "room ^Z;");
        Edge.bad(1, "room a^B;");
        Edge.bad(1, "room a^_b;");

        Edge.says("N (1 to 4 digits),");
        for (String zeros : new String[] {"", "0", "00", "000"}) {
            Edge.due("draw", planned("draw " + zeros + "7;", 8), 7);
        }
        Edge.bad(1, "draw ^00007;");
        Edge.bad(1, "draw ^000000000000000000000007;");
        Edge.good("wear 9999;");
        Edge.bad(1, "wear ^10000;");
        Edge.bad(1, "wear 1 + ^99999;");

        Edge.says("signs ; ( ) < > = + - * / %;");
        String signs = ";()<>=+-*/%";
        for (int c = 0; c < 256; c++) {
            boolean blank = c == ' ' || c == '\n';
            boolean known = c >= 'a' && c <= 'z' || c >= '0' && c <= '9' || signs.indexOf(c) >= 0;
            if (blank) {
                Edge.good((char) c + "room a;" + (char) c);
            } else {
                Edge.bad(known ? 2 : 1, "^" + (char) c);
                Edge.bad(known ? 2 : 1, "room a;^" + (char) c);
            }
        }
    }

    private static void blanks() {
        Edge.says("blanks (32, 10) part them or not;");
        Edge.good("chambers2;depths3;step1;key a0 1;lock l0/1 1;room x;room y;door d from x to y lock l;");
        Edge.good(" \n chambers \n 2 \n\n;\n\ndepths  3 ; step\n1;key\na\n0\n1\n;lock l 0 / 1 1 ; wear ( 1+2 )*3; ");
        Edge.bad(1, "chambers^\t2;");
        Edge.bad(1, "chambers 2^\r\n;");
        Edge.bad(1, "^\0room x;");
        Edge.due("a blank parts digits", Edge.told(SMALL + "key a 1 2;").key(0, 0), 5);
        Edge.bad(4, SMALL + "key a ^12;");

        Edge.says("each is as long as can be;");
        Edge.bad(5, "room x;person p in ^xx;");
        Edge.bad(2, "^roomx;");
        Edge.bad(2, "^chamberz 2;");
        Edge.bad(2, "wear ^usescut;");
        Edge.bad(2, "wear ^notuses;");
        Edge.bad(4, SMALL + "key a ^10 2;");
        Edge.bad(2, SMALL + "key a 01 ^;");
        Edge.due("one number", planned("draw 123;", 8), 123);

        Edge.says("no letter directly behind an N.");
        Edge.bad(1, "draw ^3a;");
        Edge.bad(1, "wear ^3and 4;");
        Edge.good("wear 3 and 4;");
        Edge.good("wear not3;");
        Edge.bad(1, "chambers ^2a");
        Edge.bad(1, "chambers ^2z;");
        Edge.bad(1, "chambers 2^`;");
        Edge.bad(1, "chambers 2^A;");
        // what lay behind the end of the TAPE is not of the text
        PinPlan x = new PinPlan();
        Tape.put(x, "draw 3x;");
        x.end(6);
        x.plan();
        Edge.due("FAULT behind draw 3", x.fault(0) * 100 + x.fault(1), 206);
        Edge.bad(2, "chambers 2 ^a;");
        Edge.bad(2, "chambers 2\n^a;");
    }

    private static void ownWords() {
        Edge.says("Words that stand for themselves here are no NAMES.");
        for (String word : OWN_WORDS) {
            Edge.bad(2, "room ^" + word + ";");
            Edge.bad(2, SMALL + "key ^" + word + " 0 0;");
            Edge.bad(2, SMALL + "lock ^" + word + " 0 0;");
            Edge.bad(2, THINGS + "door ^" + word + " from x to y lock l;");
            Edge.bad(2, THINGS + "person ^" + word + " in x;");
            Edge.bad(2, THINGS + "person p in ^" + word + ";");
            Edge.bad(2, THINGS + "must ^" + word + " l;");
            if (word.length() < 8) {
                Edge.good("room " + word + "z;");
            }
            if (!word.equals("in") && !word.equals("to") && !word.equals("or")) {
                Edge.good("room " + word.substring(0, 2) + ";");
            }
        }
        for (String name : new String[] {"part", "line", "both", "one", "sum", "term", "unit", "plan", "name", "e"}) {
            Edge.good("room " + name + ";");
        }
    }

    /** A line of one number from low to high, and what it is if it is not told. */
    private static void size(String word, int low, int high, int what, int first) {
        Edge.due(word + " at first", new PinPlan().about(what), first);
        Edge.due(word + " not told", planned("room x;", what), first);
        for (int n = low; n <= high; n++) {
            Edge.due(word + " " + n, planned(word + " " + n + ";", what), n);
        }
        if (low > 0) {
            Edge.bad(4, word + " ^" + (low - 1) + ";");
            Edge.bad(4, word + " ^0;");
        } else {
            Edge.bad(2, word + " ^-1;");
        }
        Edge.bad(4, word + " ^" + (high + 1) + ";");
        Edge.bad(4, word + " ^9999;");
        // what was told ahead is not told any more
        PinPlan x = Edge.told(word + " " + low + ";");
        x.plan();
        Edge.due(word + " behind an empty plan", x.about(what), first);
    }

    private static void sizes() {
        Edge.says("chambers (2 .. 5; 5 if not told),");
        size("chambers", 2, 5, 5, 5);
        Edge.says("depths (2 .. 6; 6),");
        size("depths", 2, 6, 6, 6);
        Edge.says("step (0 .. 5; 5)");
        size("step", 0, 5, 7, 5);

        Edge.says("once each,");
        for (String word : new String[] {"chambers", "depths", "step"}) {
            Edge.bad(2, word + " 3;^" + word + " 3;");
            Edge.bad(2, word + " 3;^" + word);
            Edge.bad(2, word + " 3;room x;^" + word + " 9;");
            // in the next text it may stand again
            PinPlan x = Edge.told(word + " 3;");
            Tape.put(x, word + " 2;");
            Edge.due(word + " in the next text", x.plan(), 0);
        }
        Edge.good("step 1;chambers 2;depths 3;");
        // other lines between do not matter
        String[] once = {"chambers 3;", "depths 3;", "step 3;", "wear 1;", "draw 1;"};
        String all = String.join("", once);
        for (String line : once) {
            Edge.bad(2, all + "^" + line);
            Edge.bad(2, line + all.replace(line, "") + "^" + line);
        }

        Edge.says("ahead of the first key and the first lock.");
        for (String word : new String[] {"chambers", "depths", "step"}) {
            Edge.bad(2, "key a 0 0 0 0 0;^" + word + " 3;");
            Edge.bad(2, "lock a 0 0 0 0 0;^" + word + " 3;");
            Edge.good("room a;person p in a;wear 1;draw 2;" + word + " 3;");
            PinPlan x = Edge.told("key a 0 0 0 0 0;lock a 0 0 0 0 0;");
            Tape.put(x, word + " 3;");
            Edge.due(word + " in the next text", x.plan(), 0);
        }
    }

    /** So many of a sort may be, and no more; what is too many is so at the line's first word. */
    private static void most(String ahead, String begin, String rest, int most, int what) {
        StringBuilder text = new StringBuilder(ahead);
        for (int i = 0; i < most; i++) {
            Edge.due("how many", planned(text.toString(), what), i);
            text.append(begin).append((char) ('g' + i)).append(rest);
        }
        Edge.due("how many", planned(text.toString(), what), most);
        Edge.bad(2, text + "^" + begin + "z" + rest);
        Edge.bad(2, text + "^" + begin + "g" + rest);
        Edge.bad(2, text + "^" + begin);
        // in the next text they are new
        PinPlan x = Edge.told(text.toString());
        Tape.put(x, text.toString());
        Edge.due("told again", x.plan() >= 0, true);
        Edge.due("how many, told again", x.about(what), most);
    }

    private static void keys() {
        Edge.says("At most 8 KEYS");
        most(SMALL, "key ", " 0 1;", 8, 0);

        Edge.says("(of just as many CUTS as there are chambers,");
        for (int chambers = 2; chambers <= 5; chambers++) {
            String ahead = "chambers " + chambers + ";key a";
            Edge.bad(2, ahead + " ^;");
            Edge.bad(2, ahead + Edge.repeated(" 0", chambers - 1) + "^;");
            Edge.bad(2, ahead + Edge.repeated(" 0", chambers - 1) + "^");
            Edge.good(ahead + Edge.repeated(" 0", chambers) + ";");
            Edge.bad(2, ahead + Edge.repeated(" 0", chambers) + " ^0;");
        }
        Edge.good("key a 0 0 0 0 0;");
        Edge.bad(2, "key a 0 0 0 0^;");

        Edge.says("each below depths,");
        for (int depths = 2; depths <= 6; depths++) {
            String ahead = "chambers 2;depths " + depths + ";key a ";
            Edge.good(ahead + (depths - 1) + " " + (depths - 1) + ";");
            Edge.bad(4, ahead + "^" + depths + " 0;");
            Edge.bad(4, ahead + "0 ^" + depths + ";");
            Edge.bad(4, ahead + "^" + (depths + 1) + " 0;");
        }
        Edge.bad(4, "key a ^6 0 0 0 0;");
        Edge.good("key a 5 5 5 5 5;");
    }

    private static void cuts() {
        Edge.says("none more than step from the one ahead of it),");
        for (int step = 0; step <= 5; step++) {
            String ahead = "chambers 3;step " + step + ";key a ";
            Edge.good(ahead + "0 " + step + " 0;");
            Edge.good(ahead + "5 " + (5 - step) + " 5;");
            if (step < 5) {
                Edge.bad(4, ahead + "0 ^" + (step + 1) + " 0;");
                Edge.bad(4, ahead + "5 ^" + (4 - step) + " 0;");
                Edge.bad(4, ahead + "0 0 ^" + (step + 1) + ";");
                Edge.bad(4, ahead + "5 5 ^" + (4 - step) + ";");
            }
        }
        // from the one ahead, not from the first one
        Edge.good("step 1;key a 0 1 2 3 4;");
        // a LOCK's parts may be as far apart as they are
        Edge.good("step 0;lock a 0 5 0 5 0/5;");
        // the first CUT has none ahead of it, not that of the KEY ahead either
        Edge.good("step 0;key a 0 0 0 0 0;key b 5 5 5 5 5;");
    }

    private static void locks() {
        Edge.says("6 LOCKS");
        most(SMALL, "lock ", " 0 1;", 6, 1);

        Edge.says("(of just as many parts as chambers;");
        for (int chambers = 2; chambers <= 5; chambers++) {
            String ahead = "chambers " + chambers + ";lock a";
            Edge.bad(2, ahead + " ^;");
            Edge.bad(2, ahead + Edge.repeated(" 0/1", chambers - 1) + "^;");
            Edge.bad(2, ahead + Edge.repeated(" 0/1", chambers - 1) + "^");
            Edge.good(ahead + Edge.repeated(" 0/1", chambers) + ";");
            Edge.bad(2, ahead + Edge.repeated(" 0/1", chambers) + " ^0;");
        }

        Edge.says("depths below depths,");
        for (int depths = 2; depths <= 6; depths++) {
            String ahead = "chambers 2;depths " + depths + ";lock a ";
            Edge.good(ahead + (depths - 1) + "/0 " + (depths - 1) + ";");
            Edge.bad(4, ahead + "^" + depths + " 0;");
            Edge.bad(4, ahead + "0/^" + depths + " 0;");
            Edge.bad(4, ahead + "0 1/^" + depths + ";");
        }

        Edge.says("in one part unlike),");
        Edge.bad(3, "chambers 2;lock a 0/^0 0;");
        Edge.bad(3, "chambers 2;lock a 0/1/2/3/4/5/^0 0;");
        Edge.bad(3, "chambers 2;lock a 0 4/5/^4;");
        Edge.bad(3, "chambers 2;lock a 1/^01 0;");
        Edge.good("chambers 2;lock a 0/1 0/1;lock b 0/1 0/1;");
    }

    private static void rooms() {
        Edge.says("6 ROOMS,");
        most("", "room ", ";", 6, 2);
    }

    private static void doors() {
        Edge.says("8 DOORS");
        most(THINGS, "door ", " from x to y lock l;", 8, 3);

        Edge.says("(from a ROOM told ahead to another one;");
        Edge.good(THINGS + "door d from x to y lock l;door e from y to x lock l;");
        Edge.bad(5, THINGS + "door d from ^z to y lock l;room z;");
        Edge.bad(5, THINGS + "door d from x to ^z lock l;room z;");
        Edge.good(THINGS + "room z;door d from x to z lock l;");
        Edge.bad(3, THINGS + "door d from y to ^y lock l;");

        Edge.says("of a LOCK told ahead),");
        Edge.bad(5, THINGS + "door d from x to y lock ^k;lock k 0 0;");
        Edge.good(THINGS + "lock k 0 0;door d from x to y lock k;");
        Edge.due("its LOCK", Edge.told(THINGS + "door d from x to y lock m;").door(0, 2), 1);
    }

    private static void people() {
        Edge.says("4 PEOPLE");
        most(THINGS, "person ", " in x;", 4, 4);

        Edge.says("(in a ROOM told ahead;");
        Edge.bad(5, "person p in ^x;room x;");
        Edge.bad(5, THINGS + "person p in ^z;room z;");
        Edge.good(THINGS + "room z;person p in z;");

        Edge.says("KEYS told ahead that nobody holds yet),");
        Edge.bad(5, THINGS + "person p in x holds ^c;key c 0 0;");
        Edge.good(THINGS + "key c 0 0;person p in x holds c;");
        Edge.bad(3, THINGS + "person p in x holds a ^a;");
        Edge.bad(3, THINGS + "person p in x holds a;person q in x holds ^a;");
        Edge.bad(3, THINGS + "person p in x holds a;person q in x holds b ^a;");
        StringBuilder eight = new StringBuilder(SMALL + "room x;");
        StringBuilder held = new StringBuilder("person p in x holds");
        for (char c = 'a'; c < 'i'; c++) {
            eight.append("key ").append(c).append(" 0 0;");
            held.append(' ').append(c);
        }
        Edge.due("all eight", Edge.told(eight + "" + held + ";").person(0, 1), 255);
        Edge.bad(3, eight + "" + held + " ^a;");
        Edge.bad(5, eight + "" + held + " ^i;");

        Edge.says("numbered as told, each sort by itself;");
        PinPlan x = Edge.told("chambers 2;depths 3;room b;key b 0 1;lock b 1 0;room a;key a 1 2;lock a 0 1;"
                + "door b from b to a lock a;door a from a to b lock b;person b in a holds a;person a in b holds b;");
        Edge.due("KEYS", x.key(0, 0) * 10 + x.key(1, 0), 15);
        Edge.due("LOCKS", x.parts(0, 0) * 10 + x.parts(1, 0), 21);
        Edge.due("DOORS", x.door(0, 0) * 1000 + x.door(0, 2) * 100 + x.door(1, 0) * 10 + x.door(1, 2), 110);
        Edge.due("PEOPLE", x.person(0, 0) * 1000 + x.person(0, 1) * 100 + x.person(1, 0) * 10 + x.person(1, 1), 1201);
    }

    private static void rules() {
        Edge.says("must, never (a KEY and a LOCK told ahead;");
        for (String rule : new String[] {"must ", "never "}) {
            Edge.good(THINGS + rule + "b m;");
            Edge.bad(5, THINGS + rule + "^c l;key c 0 0;");
            Edge.bad(5, THINGS + rule + "a ^n;lock n 0 0;");
            Edge.bad(5, THINGS + rule + "^l a;");
            Edge.due("which", Edge.told(THINGS + rule + "b m;").lock(1, rule.equals("must ") ? 2 : 3), 2);
        }

        Edge.says("each two once in all);");
        Edge.good(THINGS + "must a l;must b l;never a m;never b m;");
        Edge.bad(3, THINGS + "must a l;must a ^l;");
        Edge.bad(3, THINGS + "must a l;never a ^l;");
        Edge.bad(3, THINGS + "never a l;must a ^l;");
        Edge.bad(3, THINGS + "never b m;room z;never b ^m;");
        PinPlan x = Edge.told(THINGS + "must a l;");
        Tape.put(x, THINGS + "never a l;");
        Edge.due("in the next text", x.plan(), 2);
        Edge.due("must", x.lock(0, 2) * 10 + x.lock(0, 3), 1);
        // eight KEYS and six LOCKS, each two once: forty-eight
        StringBuilder all = new StringBuilder("chambers 2;");
        for (char k = 'a'; k < 'i'; k++) {
            all.append("key ").append(k).append(" 0 0;");
        }
        for (char l = 'a'; l < 'g'; l++) {
            all.append("lock ").append(l).append(" 0 0;");
        }
        for (int i = 0; i < 48; i++) {
            all.append(i % 2 == 0 ? "must " : "never ").append((char) ('a' + i / 6)).append(' ');
            all.append((char) ('a' + i % 6)).append(';');
        }
        PinPlan full = Edge.told(all.toString());
        for (int l = 0; l < 6; l++) {
            Edge.due("must", full.lock(l, 2), l % 2 == 0 ? 255 : 0);
            Edge.due("never", full.lock(l, 3), l % 2 == 0 ? 0 : 255);
        }
        Edge.bad(3, all + "must h ^f;");
    }

    private static void wearAndDraw() {
        Edge.says("wear, draw (0 .. 999; 0) once each;");
        for (int n : new int[] {0, 1, 998, 999}) {
            Edge.due("SEED", planned("draw " + n + ";", 8), n);
        }
        Edge.due("not told", planned("room x;", 8), 0);
        Edge.bad(4, "draw ^1000;");
        Edge.bad(4, "draw ^9999;");
        Edge.bad(2, "draw ^-1;");
        Edge.bad(2, "draw 1;^draw 1;");
        Edge.bad(2, "wear 1;^wear 1;");
        Edge.good("wear 1;draw 1;");
        Edge.good("draw 1;wear 1;");
        // they may stand behind a KEY, too
        Edge.good(THINGS + "draw 1;wear 1;");
        PinPlan x = Edge.told("wear 1;draw 5;");
        Edge.due("in the next text", x.plan(), 0);
        Edge.due("SEED, not told any more", x.about(8), 0);
        Edge.due("units, not told any more", x.about(14), 0);
        Tape.put(x, "chambers 2;key a 0 0;lock l 0 0;wear 100;");
        x.plan();
        Edge.due("it wears", x.lasts(0, 0), 1);
        Tape.put(x, "chambers 2;key a 0 0;lock l 0 0;");
        x.plan();
        Edge.due("it does not wear any more", x.lasts(0, 0), NONE);
        x.plan();
        Tape.put(x, "wear 1;draw 5;");
        Edge.due("in the next text", x.plan(), 0);
    }

    private static void units() {
        Edge.says("60 units in all, 30 in one e");
        for (int n = 1; n <= 30; n++) {
            Edge.due("units", planned("wear 1" + Edge.repeated("+1", n - 1) + ";", 14), n);
        }
        Edge.bad(2, "wear 1" + Edge.repeated("+1", 29) + "+^1;");
        Edge.bad(2, "wear 1" + Edge.repeated("+1", 29) + "+^1+1;");
        // each kind of unit is one
        String kinds = "cut*beside*uses*chamber*9";
        Edge.due("units", planned("wear " + kinds + ";", 14), 5);
        Edge.due("units", planned("wear " + kinds + Edge.repeated("*" + kinds, 5) + ";", 14), 30);
        for (String unit : new String[] {"cut", "beside", "uses", "chamber", "9", "(1)"}) {
            Edge.bad(2, "wear " + kinds + Edge.repeated("*" + kinds, 5) + "<^" + unit + ";");
        }
        // a unit ( e ) is one, and those in it are others
        Edge.due("units", planned("wear (1);", 14), 2);
        Edge.due("units", planned("wear ((1)+(2));", 14), 5);
        Edge.due("units", planned("wear (1" + Edge.repeated("+1", 28) + ");", 14), 30);
        Edge.bad(2, "wear (1" + Edge.repeated("+1", 28) + "+^1);");
        Edge.due("units", planned("wear 1" + Edge.repeated("+1", 27) + "+(1);", 14), 30);
        Edge.bad(2, "wear 1" + Edge.repeated("+1", 28) + "+(^1);");
        Edge.due("units, not told", planned("room x;", 14), 0);
        // not, and, or, relations are none
        Edge.due("units", planned("wear not 1 and not 2 or 3 < 4;", 14), 4);
    }

    private static void within() {
        Edge.says("(a unit ( e ), or a one behind not, within 6 others at most).");
        Edge.good("wear " + Edge.repeated("(", 6) + "1" + Edge.repeated(")", 6) + ";");
        Edge.good("wear " + Edge.repeated("(", 7) + "1" + Edge.repeated(")", 7) + ";");
        Edge.bad(2, "wear " + Edge.repeated("(", 7) + "^(1" + Edge.repeated(")", 8) + ";");
        Edge.good("wear " + Edge.repeated("not ", 6) + "1;");
        Edge.good("wear " + Edge.repeated("not ", 7) + "1;");
        Edge.bad(2, "wear " + Edge.repeated("not ", 7) + "^not 1;");
        // both count together, and a unit of another kind may stand within seven
        Edge.good("wear not (not (not (not cut)));");
        Edge.bad(2, "wear not (not (not (not ^(cut))));");
        Edge.good("wear (not (not (not (cut < uses))));");
        Edge.bad(2, "wear (not (not (not (^not cut))));");
        // all at once: thirty units with seven nots each
        String nots = Edge.repeated("not ", 7);
        String longest = nots + "0" + Edge.repeated(" and " + nots + "0", 29);
        worth(longest, true);
        worth(longest.substring(0, longest.length() - 1) + "1", false);
        worth(longest.replaceFirst("0", "1"), false);
        // behind a bracket, or a one behind not, that has ended, there is room again
        String deep = Edge.repeated("(", 7) + "1" + Edge.repeated(")", 7);
        Edge.good("wear " + deep + "+" + deep + "+" + deep + ";");
        Edge.good("wear " + Edge.repeated("not ", 7) + "1 and " + Edge.repeated("not ", 7) + "1;");
        Edge.good("wear " + Edge.repeated("not ", 7) + "1 < 2 or " + deep + ";");
        Edge.bad(2, "wear " + Edge.repeated("not ", 7) + "1 < ^(2);");
        Edge.bad(2, "wear " + Edge.repeated("not ", 7) + "1 + 2 * ^(2);");
        Edge.good("wear " + Edge.repeated("not ", 7) + "1 and (2);");
    }

    private static void placesOfFaults() {
        Edge.says("FAULTS, the first by its place");
        Edge.bad(2, "room ^0;$");
        Edge.bad(1, "room ^$;room 0;");
        Edge.bad(5, "person p in ^x;person p in x;draw 1000;");
        Edge.bad(4, "draw ^1000;room a;room a;");
        Edge.bad(3, "room a;room ^a;draw 1000;");
        Edge.bad(3, "room a;room ^a");
        Edge.bad(4, "draw ^1000");

        Edge.says("(bytes from 0; the end: the text's length),");
        Edge.bad(1, "^$");
        Edge.bad(1, " ^$");
        Edge.bad(1, "\n\n^$");
        Edge.bad(2, "room^");
        Edge.bad(2, "room x^");
        Edge.bad(2, "room x \n ^");
        Edge.bad(2, "wear (1^");
        Edge.bad(2, Edge.repeated(" ", 1596) + "room^");
        Edge.bad(1, Edge.repeated(" ", 1599) + "^$");
        Edge.bad(2, Edge.repeated(" ", 1590) + "room a;key^");

        Edge.says("at one place the least:");
        // no TOKEN, and nothing more may stand there
        Edge.bad(1, "room x ^$");
        Edge.bad(1, "room ^3x;");
        Edge.bad(1, "draw ^12345;");
        Edge.bad(1, "wear 1" + Edge.repeated("+1", 29) + "+^12345;");
        // a CUT too many that is too deep, too far, a part too many that can't be
        Edge.bad(2, SMALL + "key a 0 0 ^9;");
        Edge.bad(2, SMALL + "key a 0 0 ^2;");
        Edge.bad(2, SMALL + "lock a 0 0 ^9;");
        // too deep and too far
        Edge.bad(4, SMALL + "key a 0 ^9;");
        // too many, and a second time at a later place
        Edge.bad(2, "room a;room b;room c;room d;room e;room f;^room a;");
    }

    private static void misplaced() {
        Edge.says("1 no TOKEN;");
        Edge.bad(1, "room x^,");
        Edge.bad(1, "room x;^#");
        Edge.bad(1, "draw ^99999;");
        Edge.bad(1, "^abcdefghi");

        Edge.says("2 one that can't stand there");
        Edge.bad(2, "^x;");
        Edge.bad(2, "^3;");
        Edge.bad(2, "^from;");
        Edge.bad(2, "room x^(;");
        Edge.bad(2, "draw ^x;");

        Edge.says("(one of a sort too many or a second time,");
        Edge.bad(2, "draw 1;^draw 9999;");
        Edge.bad(2, "wear 1;^wear ;");
        Edge.bad(2, "step 0;^step 9;");
        Edge.bad(2, "room a;room b;room c;room d;room e;room f;^room 3");

        Edge.says("chambers, depths, step behind a key or a lock: at the line's first word;");
        Edge.bad(2, "chambers 2;key a 0 0;^chambers 9;");
        Edge.bad(2, "chambers 2;key a 0 0;room b;^depths");
        Edge.bad(2, "chambers 2;lock a 0 0;^step x;");
        Edge.good("chambers 2;room a;step 0;");

        Edge.says("a CUT, a part too many, what stands where one lacks;");
        Edge.bad(2, SMALL + "key a 0 0 ^0;");
        Edge.bad(2, SMALL + "key a 0 ^;");
        Edge.bad(2, SMALL + "key a 0 ^key");
        Edge.bad(2, SMALL + "key a 0 ^/ 1;");
        Edge.bad(2, SMALL + "lock a 0 0 ^0;");
        Edge.bad(2, SMALL + "lock a 0 0/1 ^0/1;");
        Edge.bad(2, SMALL + "lock a 0 ^;");
        Edge.bad(2, SMALL + "lock a 0/1 ^room");
        Edge.bad(2, SMALL + "lock a 0/^;");

        Edge.says("a unit too many, what is within 7 others: at its first TOKEN, or the not);");
        Edge.bad(2, "wear (1) + 1" + Edge.repeated("+1", 27) + "+^(1);");
        Edge.bad(2, "wear not 1" + Edge.repeated(" and not 1", 29) + " and not ^1;");
        Edge.bad(2, "wear " + Edge.repeated("not ", 7) + "^not not 1;");
        Edge.bad(2, "wear " + Edge.repeated("(", 7) + "^((1))" + Edge.repeated(")", 7) + ";");
        Edge.bad(2, "wear " + Edge.repeated("(", 7) + "1 + ^(1)" + Edge.repeated(")", 7) + ";");
        Edge.bad(2, "wear " + Edge.repeated("(", 7) + "1 and ^not 1" + Edge.repeated(")", 7) + ";");
    }

    private static void toldAlready() {
        Edge.says("3 a NAME told already (of its sort),");
        Edge.bad(3, THINGS + "key ^a 0 0;");
        Edge.bad(3, THINGS + "key ^b 9 9;");
        Edge.bad(3, THINGS + "lock ^m 0 0;");
        Edge.bad(3, THINGS + "room ^y;");
        Edge.bad(3, THINGS + "door d from x to y lock l;door ^d from x to y lock l;");
        Edge.bad(3, THINGS + "person p in x;person ^p in x;");
        Edge.good(THINGS + "key l 0 0;lock a 0 0;room a;door a from x to y lock l;person a in x;");
        Edge.good(THINGS + "key aa 0 0;key ab 0 0;key ba 0 0;");
        // each sort has its own, whatever was told since
        String all = SMALL + "key n 0 0;lock n 0 0;room n;room o;door n from n to o lock n;person n in n;key o 0 0;lock o 0 0;"
                + "door o from n to o lock o;person o in o;";
        String[] second = {"key ^n 0 0;", "lock ^n 0 0;", "room ^n;", "door ^n from n to o lock n;", "person ^n in n;",
            "key ^o 0 0;", "lock ^o 0 0;", "room ^o;", "door ^o from n to o lock n;", "person ^o in n;"};
        for (String line : second) {
            Edge.bad(3, all + line);
        }
        String unlike = SMALL + "key a 0 0;lock b 0 0;room c;room d;door e from c to d lock b;person f in c;";
        for (String line : new String[] {"key ^a 0 0;", "lock ^b 0 0;", "room ^c;", "room ^d;", "door ^e from c to d lock b;",
            "person ^f in c;"}) {
            Edge.bad(3, unlike + line);
        }
        Edge.bad(3, unlike + "door g from d to c lock b;person ^f in c;");

        Edge.says("a depth told already in that part,");
        Edge.bad(3, SMALL + "lock a 2/^2 0;");
        Edge.bad(3, SMALL + "lock a 2 0/1/2/^1;");
        Edge.good(SMALL + "lock a 2 2;");

        Edge.says("the same ROOM on both sides,");
        Edge.bad(3, THINGS + "door d from x to ^x lock l;");
        Edge.bad(3, THINGS + "door d from x to ^x");
        Edge.good(THINGS + "door d from x to y lock l;");

        Edge.says("a KEY that somebody holds,");
        Edge.bad(3, THINGS + "person p in x holds a b ^a;");
        Edge.bad(3, THINGS + "person p in x holds b;person q in x holds a ^b;");
        Edge.good(THINGS + "person p in x holds b;person q in x holds a;");

        Edge.says("a KEY and a LOCK told already (at the LOCK);");
        Edge.bad(3, THINGS + "must a l;must a ^l");
        Edge.bad(3, THINGS + "never b l;must b ^l;");
        Edge.good(THINGS + "must a l;must b l;must a m;");
    }

    private static void numbersThatCannotBe() {
        Edge.says("4 a number that can't be (a CUT too far from the one ahead, too);");
        Edge.bad(4, "chambers ^1");
        Edge.bad(4, "depths ^7");
        Edge.bad(4, "step ^6");
        Edge.bad(4, "draw ^1000");
        Edge.bad(4, SMALL + "key a ^3");
        Edge.bad(4, SMALL + "key a 0 ^2");
        Edge.bad(4, SMALL + "key a 2 ^0");
        Edge.bad(4, SMALL + "lock a 0/^3");
        Edge.good(SMALL + "key a 2 1;key b 0 1;");
    }

    private static void unknownNames() {
        Edge.says("5 a NAME that no KEY, LOCK, ROOM has (whichever stands there).");
        // a and b are KEYS, l and m LOCKS, x and y ROOMS; p is one of the PEOPLE, d a DOOR
        String ahead = THINGS + "door d from x to y lock l;person p in x;";
        for (String name : new String[] {"l", "m", "x", "y", "p", "d", "z"}) {
            Edge.bad(5, ahead + "person q in x holds ^" + name + ";");
            Edge.bad(5, ahead + "must ^" + name + " l;");
            Edge.bad(5, ahead + "never ^" + name + " l;");
        }
        for (String name : new String[] {"a", "b", "x", "y", "p", "d", "z"}) {
            Edge.bad(5, ahead + "must a ^" + name + ";");
            Edge.bad(5, ahead + "never a ^" + name + ";");
            Edge.bad(5, ahead + "door e from x to y lock ^" + name + ";");
        }
        for (String name : new String[] {"a", "b", "l", "m", "p", "d", "z"}) {
            Edge.bad(5, ahead + "door e from ^" + name + " to y lock l;");
            Edge.bad(5, ahead + "door e from x to ^" + name + " lock l;");
            Edge.bad(5, ahead + "person q in ^" + name + ";");
        }
        // what an earlier text told is not told in the next one
        PinPlan x = Edge.told("room x;");
        Tape.put(x, "person p in x;");
        Edge.due("plan()", x.plan(), NONE);
        Edge.due("FAULT", x.fault(0) * 100 + x.fault(1), 512);
    }
}
