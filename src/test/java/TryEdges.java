/** What is TRIED and what is told of it all: the promises 55 to 60 and 63, with their Terms (==== 4). */
final class TryEdges {
    private static final int NONE = PinPlan.NONE;
    private static final int MIN = Integer.MIN_VALUE;
    private static final int MAX = Integer.MAX_VALUE;

    private TryEdges() {
    }

    static void all() {
        Edge.promise(0);
        timeTerms();
        knownTerms();
        fitsTerms();
        sureTerms();
        askTerms();
        constants();
        tried();
        untell();
        later();
        fits();
        sure();
        ask();
        about();
    }

    private static PinPlan flat() {
        return Edge.told(Edge.FLAT);
    }

    // ---- the Terms: front is opened by 010, 012, 110, 112; back by 110, 120; vault by 321, 323; of 50

    private static void timeTerms() {
        Edge.says("TRIED, 30 at most, is TOLD at a TIME (0 at first, goes on), UNTOLD at a later one or the same,");
        PinPlan x = flat();
        Edge.due("the TIME at first", x.about(12), 0);
        x.tried(0, true);
        x.untell(0);
        Edge.due("UNTOLD at the same", x.fits(0), 50);
        x.tried(0, true);
        x.later(1);
        x.untell(1);
        Edge.due("TOLD at 0", x.fits(0), 4);
        Edge.due("UNTOLD at 1", x.fits(1), 50);
        for (int i = 2; i < 30; i++) {
            Edge.due("TRIED", x.tried(0, true), i);
        }
        Edge.due("30 of them", x.about(11), 30);
        Edge.due("a 31st", x.tried(0, true), NONE);

        Edge.says("of a key of which just that is known that it is LEGAL:");
        PinPlan y = flat();
        Edge.due("whichever KEYS there are", y.fits(0), y.legal());
        Edge.due("no KEYS", new PinPlan().fits(0), 7776);
        y.tried(0, true);
        Edge.due("KEYS have two of the four", y.fits(0), 4);

        Edge.says("that it OPENS a LOCK as it was told in the text, or does not.");
        PinPlan z = flat();
        z.pin(0, 8);
        z.part(1, 0, 3);
        z.tried(0, true);
        Edge.due("as told", z.fits(0), 4);
        z.tried(1, false);
        Edge.due("as told", z.fits(0), 3);
        z.undo();
        z.undo();
        Edge.due("as told", z.fits(0), 3);
        z.image(0);
        z.pin(0, 1);
        z.back(0);
        Edge.due("as told", z.fits(0), 3);
    }

    private static void knownTerms() {
        Edge.says("As known at k that counts that was TOLD at k or before, not UNTOLD at k or before.");
        PinPlan x = flat();
        x.later(10);
        x.tried(0, true);
        x.later(10);
        x.tried(1, true);
        x.later(10);
        x.untell(0);
        x.later(10);
        x.untell(1);
        int[][] all = {{MIN, 50}, {-1, 50}, {0, 50}, {9, 50}, {10, 4}, {11, 4}, {19, 4}, {20, 1}, {21, 1}, {29, 1}, {30, 2},
            {31, 2}, {39, 2}, {40, 50}, {41, 50}, {MAX, 50}};
        for (int[] two : all) {
            Edge.due("fits(" + two[0] + ")", x.fits(two[0]), two[1]);
        }
        // what is to come is not known yet: it is told at the TIME that is now
        x.tried(2, true);
        Edge.due("fits(39)", x.fits(39), 2);
        Edge.due("fits(40)", x.fits(40), 2);
        Edge.due("fits(MAX)", x.fits(MAX), 2);
        // told twice, one of them taken back: it counts still
        x.tried(2, true);
        x.untell(2);
        Edge.due("the other one counts", x.fits(40), 2);
    }

    private static void fitsTerms() {
        Edge.says("FITS: LEGAL BITTINGS by which all that counts is so.");
        PinPlan x = flat();
        x.tried(0, false);
        Edge.due("not front", x.fits(0), 46);
        x.tried(1, true);
        Edge.due("not front, but back", x.fits(0), 1);
        x.tried(0, true);
        Edge.due("front and not front", x.fits(0), 0);
        x.untell(0);
        Edge.due("front and back", x.fits(0), 1);
        x.tried(2, true);
        Edge.due("none opens all", x.fits(0), 0);
        PinPlan y = flat();
        y.tried(0, false);
        y.tried(1, false);
        y.tried(2, false);
        Edge.due("none of them", y.fits(0), 43);
    }

    private static void sureTerms() {
        Edge.says("SURE of a chamber: the CUT, if it is the same in all.");
        PinPlan x = flat();
        x.tried(0, true);
        Edge.due("the first", x.sure(0, 0), -2);
        Edge.due("the second", x.sure(1, 0), 1);
        Edge.due("the third", x.sure(2, 0), -2);
        x.tried(1, false);
        // 010, 012, 112
        Edge.due("the first", x.sure(0, 0), -2);
        Edge.due("the third", x.sure(2, 0), -2);
        x.untell(1);
        x.tried(1, true);
        Edge.due("110", x.sure(0, 0) * 100 + x.sure(1, 0) * 10 + x.sure(2, 0), 110);
        // by the step alone: 0 0 is the only one that begins so
        PinPlan y = Edge.told("chambers 2;depths 4;step 0;lock l 3/2 0/3;");
        y.tried(0, true);
        Edge.due("33 alone", y.sure(0, 0) * 10 + y.sure(1, 0), 33);
        PinPlan z = Edge.told("chambers 2;depths 2;lock l 0 0/1;");
        z.tried(0, true);
        Edge.due("a CUT of 0", z.sure(0, 0), 0);
        // none of the LOCKS: 10 is left
        PinPlan w = Edge.told("chambers 2;depths 2;lock l 0 0/1;lock m 1 1;");
        w.tried(0, false);
        w.tried(1, false);
        Edge.due("10 alone", w.sure(0, 0) * 10 + w.sure(1, 0), 10);
        oneByOne("chambers 3;depths 4;step 2;lock a 0/1 1 2/0;lock b 1 1/2 0;lock c 3/1 2/1 1/3/0;", 3, 4, 2);
        oneByOne("chambers 5;depths 3;step 1;lock a 0/1 1 2/0 0/1/2 1/2;lock b 1/2 1/2 0/1 1 2/1;"
                + "lock c 1 0/1/2 1/2 1/2 2;", 5, 3, 1);
        oneByOne("chambers 4;depths 6;step 5;lock a 5 0/1/2/3/4/5 0/3 1/2;lock b 5/0 5/4 3/1 1;"
                + "lock c 2/5 4 0/1/2/3/4 5/1;", 4, 6, 5);
    }

    /** FITS and SURE by looking at each BITTING, for all that can be known of three LOCKS: 0 no, 1 yes, 2 not tried. */
    private static void oneByOne(String text, int chambers, int depths, int step) {
        for (int known = 0; known < 27; known++) {
            PinPlan x = Edge.told(text);
            int[] wants = {known % 3, known / 3 % 3, known / 9};
            for (int l = 0; l < 3; l++) {
                if (wants[l] < 2) {
                    x.tried(l, wants[l] == 1);
                }
            }
            int[] parts = new int[3 * chambers];
            for (int i = 0; i < parts.length; i++) {
                parts[i] = x.parts(i / chambers, i % chambers);
            }
            int count = 0;
            int[] met = new int[chambers];
            for (int number = 0; number < Edge.power(depths, chambers); number++) {
                int[] cuts = Edge.digits(number, chambers, depths);
                if (Edge.legal(cuts, step) && isSo(parts, cuts, wants)) {
                    count++;
                    for (int c = 0; c < chambers; c++) {
                        met[c] |= 1 << cuts[c];
                    }
                }
            }
            Edge.due("fits(0) by " + known + " of " + text, x.fits(0), count);
            for (int c = 0; c < chambers; c++) {
                int same = Integer.bitCount(met[c]) == 1 ? Integer.numberOfTrailingZeros(met[c]) : -2;
                Edge.due("sure(" + c + ", 0) by " + known + " of " + text, x.sure(c, 0), count == 0 ? NONE : same);
            }
        }
    }

    private static boolean isSo(int[] parts, int[] cuts, int[] wants) {
        for (int l = 0; l < wants.length; l++) {
            boolean opens = true;
            for (int c = 0; c < cuts.length && wants[l] < 2; c++) {
                opens &= (parts[l * cuts.length + c] >> cuts[c] & 1) != 0;
            }
            if (wants[l] < 2 && opens != (wants[l] == 1)) {
                return false;
            }
        }
        return true;
    }

    private static void askTerms() {
        Edge.says("ASK: the LOCK (as told) of which to know whether it OPENS it would leave the fewest of these at the most; "
                + "of like ones the first.");
        // of 16: a 4, b 8, c 12, d 8
        PinPlan x = Edge.told("chambers 2;depths 4;lock a 0 0/1/2/3;lock b 0/1 0/1/2/3;lock c 0/1/2 0/1/2/3;lock d 0/1/2/3 2/3;");
        Edge.due("b", x.ask(0, 0) * 100 + x.ask(1, 0), 108);
        x.pin(1, 0);
        x.part(1, 0, 2);
        Edge.due("as told", x.ask(0, 0) * 100 + x.ask(1, 0), 108);
        x.tried(1, true);
        // of 8: a 4, b 8, c 8, d 4
        Edge.due("a", x.ask(0, 0) * 100 + x.ask(1, 0), 4);
        x.tried(0, true);
        // of 4: a 4, b 4, c 4, d 2
        Edge.due("d", x.ask(0, 0) * 100 + x.ask(1, 0), 302);
        x.tried(3, true);
        // of 2 all are as they are: none is better than the first
        Edge.due("the first", x.ask(0, 0) * 100 + x.ask(1, 0), 2);
        // as known at another time
        Edge.due("ahead of it all", x.ask(0, -1) * 100 + x.ask(1, -1), 108);
        // the most of both counts: 12 and 4 are as good as 4 and 12
        PinPlan y = Edge.told("chambers 2;depths 4;lock a 0/1/2 0/1/2/3;lock b 3 0/1/2/3;");
        Edge.due("the first", y.ask(0, 0) * 100 + y.ask(1, 0), 12);
    }

    private static void constants() {
        Edge.says("The constants: `NONE = -1`: There is none; nobody, the HOOK.");
        Edge.due("NONE", PinPlan.NONE, -1);
        Edge.due("the HOOK", flat().key(2, 2), PinPlan.NONE);
        Edge.due("who had it", flat().give(2, 0), PinPlan.NONE);
    }

    // ---- the promises

    /** So many are TRIED. */
    private static PinPlan triedOften(int times) {
        PinPlan x = Edge.busy();
        for (int i = x.about(11); i < times; i++) {
            x.tried(i % 3, false);
        }
        return x;
    }

    private static void tried() {
        Edge.promise(55);
        Edge.says("A TRIED: its number;");
        PinPlan x = flat();
        for (int i = 0; i < 30; i++) {
            Edge.due("tried", x.tried(i % 3, i % 2 == 0), i);
        }
        PinPlan y = flat();
        Edge.due("the first", y.tried(2, true), 0);
        y.untell(0);
        Edge.due("behind one UNTOLD", y.tried(2, true), 1);
        Tape.put(y, Edge.FLAT);
        y.plan();
        Edge.due("behind a plan", y.tried(2, true), 0);
        // it is no ACT
        PinPlan z = Edge.busy();
        z.tried(2, true);
        Edge.due("ACTS", z.about(9) * 10 + z.about(10), 21);

        Edge.says("NONE, doing nothing, if there is no such LOCK, or there are 30.");
        for (int n : Edge.outside(3)) {
            Edge.refused("tried(" + n + ", true)", NONE, w -> w.tried(n, true));
            Edge.refused("tried(" + n + ", false)", NONE, w -> w.tried(n, false));
        }
        Edge.refused("without LOCKS", NONE, PinPlan::new, w -> w.tried(0, true));
        Edge.due("there are 29", triedOften(29).tried(0, true), 29);
        Edge.refused("there are 30", NONE, () -> triedOften(30), w -> w.tried(0, true));
        // those that are UNTOLD are there, too
        Edge.refused("there are 30", NONE, () -> {
            PinPlan w = triedOften(30);
            w.untell(29);
            return w;
        }, w -> w.tried(0, true));
    }

    private static void untell() {
        Edge.promise(56);
        Edge.says("It is UNTOLD: true;");
        PinPlan x = flat();
        x.tried(0, true);
        x.tried(1, true);
        Edge.due("the second", x.untell(1), true);
        Edge.due("it does not count", x.fits(0), 4);
        Edge.due("the first", x.untell(0), true);
        Edge.due("it does not count", x.fits(0), 50);
        Edge.due("TRIED", x.about(11), 2);
        PinPlan full = triedOften(30);
        Edge.due("the last of 30", full.untell(29), true);
        PinPlan y = Edge.busy();
        y.untell(1);
        Edge.due("it is no ACT", y.about(9) * 10 + y.about(10), 21);

        Edge.says("false if it is so already, or there is none such.");
        Edge.refused("it is so already", 0, w -> Edge.one(w.untell(0)));
        for (int n : Edge.outside(2)) {
            Edge.refused("untell(" + n + ")", 0, w -> Edge.one(w.untell(n)));
        }
        for (int n : Edge.outside(30)) {
            int out = n >= 0 && n < 30 ? 30 : n;
            Edge.refused("untell(" + out + ")", 0, () -> triedOften(30), w -> Edge.one(w.untell(out)));
        }
        Edge.refused("nothing is TRIED", 0, PinPlan::new, w -> Edge.one(w.untell(0)));
        // once more, later: it stays UNTOLD at the first time
        PinPlan z = flat();
        z.tried(0, true);
        z.later(5);
        z.untell(0);
        z.later(5);
        Edge.due("so already", z.untell(0), false);
        Edge.due("fits(4)", z.fits(4), 4);
        Edge.due("fits(5)", z.fits(5), 50);
    }

    /** A TIME that is this one. */
    private static PinPlan at(int time) {
        PinPlan x = Edge.busy();
        int now = x.about(12);
        while (now < time) {
            now = x.later(Math.min(1000, time - now));
        }
        return x;
    }

    private static void later() {
        Edge.promise(57);
        Edge.says("So much later (0 .. 1000): the TIME;");
        PinPlan x = new PinPlan();
        Edge.due("later(0)", x.later(0), 0);
        Edge.due("later(1)", x.later(1), 1);
        Edge.due("later(999)", x.later(999), 1000);
        Edge.due("later(1000)", x.later(1000), 2000);
        Edge.due("the TIME", x.about(12), 2000);
        Edge.due("it is no ACT", x.undo(), false);

        Edge.says("NONE, doing nothing, for another number, or if it would be above 100,000.");
        for (int by : new int[] {-1, -2, -1000, 1001, 1002, 100000, MIN, MAX}) {
            Edge.refused("later(" + by + ")", NONE, y -> y.later(by));
        }
        Edge.due("99,000 and 1,000", at(99000).later(1000), 100000);
        Edge.refused("99,001 and 1,000", NONE, () -> at(99001), y -> y.later(1000));
        Edge.due("99,999 and 1", at(99999).later(1), 100000);
        Edge.refused("99,999 and 2", NONE, () -> at(99999), y -> y.later(2));
        Edge.refused("100,000 and 1", NONE, () -> at(100000), y -> y.later(1));
        Edge.due("100,000 and 0", at(100000).later(0), 100000);
        // what is told at the last TIME counts from then on
        PinPlan z = at(100000);
        z.tried(2, true);
        Edge.due("fits(99999)", z.fits(99999), 48);
        Edge.due("fits(100000)", z.fits(100000), 2);
    }

    private static void fits() {
        Edge.promise(58);
        Edge.says("FITS: how many.");
        // front TOLD at 5, UNTOLD at 8; not back TOLD at 8
        PinPlan x = Edge.busy();
        int[][] all = {{MIN, 50}, {4, 50}, {5, 4}, {7, 4}, {8, 48}, {MAX, 48}};
        for (int[] two : all) {
            Edge.due("fits(" + two[0] + ")", x.fits(two[0]), two[1]);
        }
        Edge.due("of all", new PinPlan().fits(0), 7776);
        x.tried(1, true);
        Edge.due("none", x.fits(10), 0);
        Edge.due("ahead of it", x.fits(9), 48);
    }

    private static void sure() {
        Edge.promise(59);
        Edge.says("SURE; -2 if it is not the same in all;");
        PinPlan x = Edge.busy();
        Edge.due("sure(1, 5)", x.sure(1, 5), 1);
        Edge.due("sure(0, 5)", x.sure(0, 5), -2);
        Edge.due("sure(2, 7)", x.sure(2, 7), -2);
        Edge.due("sure(1, 4)", x.sure(1, 4), -2);
        Edge.due("sure(1, 8)", x.sure(1, 8), -2);
        x.tried(2, true);
        // 321, 323
        Edge.due("the first", x.sure(0, 10), 3);
        Edge.due("the second", x.sure(1, 10), 2);
        Edge.due("the third", x.sure(2, 10), -2);

        Edge.says("NONE if none FITS, or there is no such chamber.");
        for (int n : Edge.outside(3)) {
            Edge.due("sure(" + n + ", 5)", x.sure(n, 5), NONE);
        }
        x.tried(1, true);
        for (int c = 0; c < 3; c++) {
            Edge.due("none FITS", x.sure(c, 10), NONE);
        }
        for (int n : Edge.outside(3)) {
            Edge.due("none FITS", x.sure(n, 10), NONE);
        }
        Edge.due("at first", new PinPlan().sure(4, 0), -2);
        Edge.due("no sixth chamber", new PinPlan().sure(5, 0), NONE);
    }

    private static void ask() {
        Edge.promise(60);
        Edge.says("ASK what 0: the LOCK, 1: how many are left at the most;");
        PinPlan x = Edge.busy();
        Edge.due("of 50: front 4, back 2, vault 2", x.ask(0, 0) * 100 + x.ask(1, 0), 46);
        Edge.due("of 4: front 4, back 1, vault 0", x.ask(0, 5) * 100 + x.ask(1, 5), 103);
        Edge.due("of 48: front 3, back 0, vault 2", x.ask(0, 8) * 100 + x.ask(1, 8), 45);

        Edge.says("NONE if none FITS, there are no LOCKS, or for another what.");
        for (int what : Edge.beside(0, 1)) {
            Edge.due("ask(" + what + ", 0)", x.ask(what, 0), NONE);
        }
        x.tried(1, true);
        Edge.due("none FITS", x.ask(0, 10), NONE);
        Edge.due("none FITS", x.ask(1, 10), NONE);
        Edge.due("ahead of it", x.ask(0, 9), 0);
        Edge.due("no LOCKS", new PinPlan().ask(0, 0), NONE);
        Edge.due("no LOCKS", new PinPlan().ask(1, 0), NONE);
        // one FITS: one is left at the most
        PinPlan one = Edge.told("chambers 2;lock l 0 0;");
        one.tried(0, true);
        Edge.due("one is left", one.ask(0, 0) * 10 + one.ask(1, 0), 1);
    }

    private static void about() {
        Edge.promise(63);
        Edge.says("What 0: KEYS, 1: LOCKS, 2: ROOMS, 3: DOORS, 4: PEOPLE, 5: chambers, 6: depths, 7: step, 8: the SEED, "
                + "9: ACTS that can be undone, 10: redone, 11: what is TRIED, 12: the TIME, 13: bytes on the TAPE, 14: units, "
                + "15: numbers that lie there.");
        PinPlan x = Edge.busy();
        int[] all = {4, 3, 4, 3, 3, 3, 4, 2, 30, 2, 1, 2, 10, 7, 1, 1};
        for (int what = 0; what < 16; what++) {
            Edge.due("about(" + what + ")", x.about(what), all[what]);
        }
        Edge.due("units of a formula", Edge.told("wear (cut + 1) * 2 < uses;").about(14), 5);

        Edge.says("NONE for another what.");
        for (int what : Edge.beside(0, 15)) {
            Edge.due("about(" + what + ")", x.about(what), NONE);
        }
    }
}
