/** Texts and their FAULTS: which, and at what place. */
public final class FaultTest {
    private static final String SMALL = "chambers 2;depths 3;step 1;";
    private static final String KEYS = SMALL + "key a 0 1;key b 2 2;lock l 0/1 1;lock m 2 2;room x;room y;";
    private static int wrong = 0;

    private static void due(String text, int kind, int place) {
        PinPlan x = new PinPlan();
        Tape.put(x, text);
        int keys = x.plan();
        boolean right = (keys == PinPlan.NONE) == (kind != 0) && x.fault(0) == kind && x.fault(1) == place;
        right &= x.about(13) == (kind == 0 ? 0 : text.length());
        if (!right) {
            wrong++;
            System.out.println("plan() of \"" + text + "\" answered " + keys + ", FAULT " + x.fault(0) + " at "
                    + x.fault(1) + ", due is " + kind + " at " + place);
        }
    }

    private static void good(String text) {
        due(text, 0, PinPlan.NONE);
    }

    /** The FAULT is at the sign ^, which is not of the text. */
    private static void bad(int kind, String marked) {
        int place = marked.indexOf('^');
        due(marked.substring(0, place) + marked.substring(place + 1), kind, place);
    }

    private static String repeated(String piece, int times) {
        return piece.repeat(times);
    }

    public static void main(String[] args) {
        tokens();
        sizes();
        keys();
        locks();
        rooms();
        people();
        rules();
        formulas();
        limits();
        System.out.println(wrong == 0 ? "all faults are as due" : wrong + " faults are not as due");
        if (wrong != 0) {
            System.exit(1);
        }
    }

    private static void tokens() {
        good("");
        good("  \n ");
        good("chambers2;depths\n3;step 1;key a0 1;lock l0/1 1;");
        good("chambers 0002;key part 5 5;room line;room e;room abcdefgh;");
        bad(1, "^$");
        bad(1, "chambers ^\t2;");
        bad(1, "chambers 2^,");
        bad(1, "^Chambers 2;");
        bad(1, "^\u00ff");
        bad(1, "^\u0000");
        bad(1, "room ^abcdefghi;");
        bad(1, "draw ^00001;");
        bad(1, "wear ^12345;");
        bad(1, "chambers ^3x;");
        bad(1, "chambers ^9depths 2;");
        bad(1, "chambers 2;^$ $");
        bad(2, "room^");
        bad(2, "^part a;");
        bad(2, "^;");
        bad(2, "chambers 2;^;");
    }

    private static void sizes() {
        for (String size : new String[] {"chambers", "depths", "step"}) {
            bad(2, size + "^");
            bad(2, size + "   ^");
            bad(2, size + " ^x;");
            bad(2, size + " 3^");
            bad(2, size + " 3 ^3;");
            bad(2, size + " 3;^" + size + " 3;");
            bad(2, size + " 3;^" + size);
            bad(4, size + " ^6000");
            bad(2, "key a 0 0 0 0 0;^" + size + " 3;");
            bad(2, "lock a 0 0 0 0 0;^" + size + " 3;");
            good("room a;" + size + " 3;");
        }
        bad(4, "chambers ^1;");
        bad(4, "chambers ^6;");
        bad(4, "depths ^1;");
        bad(4, "depths ^7;");
        bad(4, "step ^6;");
        good("chambers 5;depths 6;step 5;");
        good("step 0;depths 2;chambers 2;");
        bad(4, "draw ^1000;");
        bad(2, "draw 0;^draw 0;");
        bad(2, "draw ^-1;");
        good("draw 999;");
    }

    private static void keys() {
        bad(2, SMALL + "key^");
        bad(2, SMALL + "key ^0 0;");
        bad(2, SMALL + "key ^key 0 0;");
        bad(2, SMALL + "key ^chamber 0 0;");
        bad(2, SMALL + "key a ^;");
        bad(2, SMALL + "key a 0 ^;");
        bad(2, SMALL + "key a 0^");
        bad(2, SMALL + "key a 0 0 ^0;");
        bad(2, SMALL + "key a 0 0 ^9;");
        bad(2, SMALL + "key a 0^/1;");
        bad(4, SMALL + "key a ^3 0;");
        bad(4, SMALL + "key a 0 ^2;");
        bad(4, SMALL + "key a 0 ^9999 $;");
        bad(3, SMALL + "key a 0 0;key ^a 0 0;");
        good(SMALL + "key a 0 0;lock a 0 0;room a;");
    }

    private static void locks() {
        bad(2, SMALL + "lock l ^;");
        bad(2, SMALL + "lock l 0 ^;");
        bad(2, SMALL + "lock l 0/^;");
        bad(2, SMALL + "lock l 0/1 ^;");
        bad(2, SMALL + "lock l 0 1 ^2;");
        bad(2, SMALL + "lock l 0 1 ^7;");
        bad(2, SMALL + "lock l ^/0 1;");
        bad(3, SMALL + "lock l 0/1/^0 1;");
        bad(3, SMALL + "lock l 0/1/2/^0 1;");
        bad(4, SMALL + "lock l 0/^3 1;");
        bad(3, SMALL + "lock l 0 2;lock ^l 0 2;");
        good(SMALL + "lock l 2/0/1 1/0;");
    }

    private static void rooms() {
        bad(3, "room a;room ^a;");
        bad(2, "room a ^b;");
        bad(2, KEYS + "door ^from from x to y lock l;");
        bad(2, KEYS + "door d ^to y lock l;");
        bad(5, KEYS + "door d from ^z to y lock l;");
        bad(2, KEYS + "door d from ^0 to y lock l;");
        bad(2, KEYS + "door d from x ^from y lock l;");
        bad(5, KEYS + "door d from x to ^a lock l;");
        bad(3, KEYS + "door d from x to ^x lock l;");
        bad(2, KEYS + "door d from x to y ^l;");
        bad(5, KEYS + "door d from x to y lock ^x;");
        bad(2, KEYS + "door d from x to y lock l^");
        bad(3, KEYS + "door d from x to y lock l;door ^d from x to y lock l;");
        bad(5, "room x;door d from x to ^y lock l;room y;");
        good(KEYS + "door d from x to y lock l;door e from y to x lock l;");
    }

    private static void people() {
        bad(2, KEYS + "person p ^x;");
        bad(5, KEYS + "person p in ^z;");
        bad(2, KEYS + "person p in x ^a;");
        bad(2, KEYS + "person p in x holds ^;");
        bad(2, KEYS + "person p in x holds a ^0;");
        bad(5, KEYS + "person p in x holds ^l;");
        bad(5, KEYS + "person p in x holds a ^c;");
        bad(3, KEYS + "person p in x holds a ^a;");
        bad(3, KEYS + "person p in x holds a;person q in y holds b ^a;");
        bad(3, KEYS + "person p in x;person ^p in x;");
        good(KEYS + "person p in x holds b a;person q in x;");
    }

    private static void rules() {
        bad(5, KEYS + "must ^l l;");
        bad(5, KEYS + "must a ^a;");
        bad(2, KEYS + "must a ^;");
        bad(2, KEYS + "must a l ^m;");
        bad(3, KEYS + "must a l;never a ^l;");
        bad(3, KEYS + "never a l;never a ^l;");
        bad(2, KEYS + "never ^must l;");
        good(KEYS + "must a l;never a m;must b l;never b m;");
    }

    private static void formulas() {
        bad(2, "wear ^;");
        bad(2, "wear^");
        bad(2, "wear ^x;");
        bad(2, "wear 1 ^2;");
        bad(2, "wear 1 +^;");
        bad(2, "wear 1 + ^not 2;");
        bad(2, "wear ^- 1;");
        bad(2, "wear 1 < 2 ^< 3;");
        bad(2, "wear (1^;");
        bad(2, "wear (^);");
        bad(2, "wear 1 ^);");
        bad(2, "wear not ^;");
        bad(2, "wear ^chambers;");
        bad(2, "wear 1;^wear 1;");
        bad(1, "wear 1 ^& 2;");
        bad(2, "wear 1^");
        good("wear not 1 < 2 and (3 or cut = beside) or uses % 5 * chamber / 2 - 9999 + 1 > 0;");
        good("wear 1 < 2 and 2 < 3;");
    }

    private static void limits() {
        // the 31st unit, a bracket being one too
        good("wear 1" + repeated("+1", 29) + ";");
        bad(2, "wear 1" + repeated("+1", 29) + "+^1;");
        bad(2, "wear (1" + repeated("+1", 28) + "+^1);");
        bad(2, "wear 1" + repeated("+1", 29) + "+^(1);");
        bad(2, "wear 1" + repeated("+1", 29) + "+^;");
        good("wear (1" + repeated("+1", 28) + ");");
        // within six others, not within seven
        good("wear " + repeated("(", 7) + "1" + repeated(")", 7) + ";");
        bad(2, "wear " + repeated("(", 7) + "^(1" + repeated(")", 8) + ";");
        good("wear " + repeated("not ", 7) + "1;");
        bad(2, "wear " + repeated("not ", 7) + "^not 1;");
        bad(2, "wear " + repeated("not(", 3) + "not ^(1" + repeated(")", 4) + ";", 7);
        bad(2, "wear " + repeated("not (", 3) + "( ^not 1" + repeated(")", 4) + ";", 7);
        good("wear " + repeated("not (", 3) + "not 1" + repeated(")", 3) + ";");
        good("wear " + repeated(repeated("not ", 7) + "1 or ", 29) + repeated("not ", 7) + "1;");
        good("wear (((((((1)))))))+(((((((1)))))))*2;");
        many("key ", " 0 0;", 8);
        many("lock ", " 0 0;", 6);
        many("room ", ";", 6);
        many("door ", " from x to y lock l;", 8);
        many("person ", " in x;", 4);
        good(repeated(" ", 1600));
        bad(2, repeated(" ", 1599) + "^;");
        bad(2, repeated(" ", 1596) + "draw^");
    }

    /** A text of eight levels in all, of which the last is one too many only if all levels count together. */
    private static void bad(int kind, String marked, int levels) {
        int open = 0;
        String ahead = marked.substring(0, marked.indexOf('^'));
        for (int i = 0; i < ahead.length(); i++) {
            open += ahead.charAt(i) == '(' ? 1 : 0;
            open += ahead.startsWith("not", i) ? 1 : 0;
        }
        if (open != levels) {
            wrong++;
            System.out.println("the test itself is wrong: \"" + marked + "\" has " + open + " levels");
        }
        bad(kind, marked);
    }

    private static void many(String begin, String rest, int most) {
        StringBuilder text = new StringBuilder("chambers 2;");
        if (begin.equals("door ") || begin.equals("person ")) {
            text.append("lock l 0 0;room x;room y;");
        }
        for (int i = 0; i < most; i++) {
            text.append(begin).append((char) ('a' + i)).append(rest);
        }
        good(text.toString());
        bad(2, text + "^" + begin + "z" + rest);
        bad(2, text + "^" + begin + "a" + rest);
        bad(2, text + "^" + begin);
    }
}
