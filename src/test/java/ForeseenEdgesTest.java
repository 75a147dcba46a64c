/** The edges that the document names for what will be, who should be tied, tugs, pulls and draws: promises 14 to 32. */
public final class ForeseenEdgesTest extends Edges {
    private static final int[] STRANGERS = {-1, 2, 8, LEAST, MOST};

    public static void main(String[] args) {
        begin("ForeseenEdgesTest");
        when();
        ahead();
        held();
        still();
        length();
        kindFor();
        lead();
        cuts();
        freed();
        apart();
        least();
        mate();
        ways();
        fits();
        fitsByMate();
        who();
        pulls();
        knots();
        days();
        seed();
        end(14, 32);
    }

    // The two come on by 1 in each two STEPS, and dance for ever at the end.
    private static void dancers() {
        one(3, 1, 9, 3);
        one(0, 0, 0, 3);
        x.tie(0, 1, 1);
    }

    private static void when() {
        edge(14, "behind 0 STEPS, THERE already");
        people(4);
        due("when(0)", x.when(0), 0);
        edge(14, "THERE already, though one is drawn away by the first STEP");
        one(0, 4, 9, 9);
        one(0, 4, 4, 0);
        x.tie(0, 1, 0);
        due("when(1)", x.when(1), 0);
        x.go(1);
        due("when(1)", x.when(1), NONE);
        edge(14, "the fewest");
        one(0, 0, 1, 3);
        one(0, 0, 9, 3);
        one(2, 0, 9, 3);
        one(4, 0, 9, 3);
        due("when(0)", x.when(0), 1);
        due("when(1)", x.when(1), 9);
        due("when(2)", x.when(2), 5);
        due("when(3)", x.when(3), 3);
        edge(14, "the fewest: THERE for a while alone");
        dancers();
        due("when(0)", x.when(0), 13);
        due("ahead(14)", x.ahead(14) & 1, 0);
        edge(14, "the fewest: drawn on by 1 at each odd CLOCK, when the DANCER is weaker");
        one(3, 0, 7, 0);
        one(0, 0, 9, 2);
        x.tie(0, 1, 0);
        due("when(0)", x.when(0), 14);
        due("when(1)", x.when(1), 18);
        edge(14, "NONE");
        one(6, 0, 9, 3);
        one(0, 4, 9, 3);
        x.way(8, 9, 0);
        due("when(0) of an ANCHOR", x.when(0), NONE);
        due("when(1), the ERRAND being FAR", x.when(1), NONE);
        edge(14, "NONE: HELD for ever, by 1");
        one(0, 0, 5, 3);
        people(0);
        x.tie(0, 1, 4);
        due("when(0)", x.when(0), NONE);
        x.tie(0, 1, 5);
        due("when(0)", x.when(0), 5);
        edge(14, "BEYOND: no such PERSON");
        due("when(0) of nobody", x.when(0), BEYOND);
        people(0, 0);
        for (int p : STRANGERS) due("when(" + p + ")", x.when(p), BEYOND);
    }

    private static void ahead() {
        edge(15, "n 0 to 60");
        due("ahead(0) of nobody", x.ahead(0), 0);
        due("ahead(60) of nobody", x.ahead(60), 0);
        int[] others = {-1, 61, LEAST, MOST};
        for (int n : others) due("ahead(" + n + ")", x.ahead(n), BEYOND);
        edge(15, "behind 0 STEPS: as now");
        one(0, 0, 1, 3);
        people(5);
        due("ahead(0)", x.ahead(0), 2);
        due("ahead(1)", x.ahead(1), 3);
        edge(15, "behind 60 STEPS, not 59");
        dancers();
        for (int n = 53; n < 61; n++) due("ahead(" + n + ")", x.ahead(n), n % 2);
        x.go(1);
        due("ahead(60) a STEP later", x.ahead(60), 1);
        edge(15, "all of 8");
        for (int p = 0; p < 8; p++) one(0, 0, p, 3);
        due("ahead(6)", x.ahead(6), 127);
        due("ahead(7)", x.ahead(7), 255);
    }

    private static void held() {
        edge(16, "NONE");
        due("held() of nobody", x.held(), NONE);
        people(0, 0, 9);
        x.tie(0, 2, 0);
        due("held(), all being THERE", x.held(), NONE);
        x.change(1, 2, 9);
        due("held(), one being free", x.held(), NONE);
        edge(16, "NONE: what was HELD before is no more");
        one(0, 0, 9, 3);
        people(0);
        x.tie(0, 1, 0);
        x.go(1);
        due("held()", x.held(), 0);
        x.cut(0);
        due("held()", x.held(), NONE);
        edge(16, "first: by STEPS");
        one(0, 0, 9, 3);
        people(0);
        one(0, 0, 9, 3);
        people(0);
        x.tie(0, 1, 4);
        x.tie(2, 3, 3);
        due("held()", x.held(), 2);
        x.tie(2, 3, 5);
        due("held()", x.held(), 0);
        x.tie(0, 1, 3);
        x.tie(2, 3, 2);
        due("held()", x.held(), 2);
        edge(16, "in a STEP: by numbers");
        one(0, 0, 9, 3);
        people(0);
        one(2, 0, 9, 3);
        people(0);
        x.tie(0, 1, 1);
        x.tie(2, 3, 2);
        due("held()", x.held(), 0);
        x.change(0, 0, 2);
        x.change(2, 0, 0);
        x.tie(2, 3, 0);
        due("held(), 0 moving once before", x.held(), 0);
    }

    private static void still() {
        edge(17, "behind 0 STEPS");
        due("still() of nobody", x.still(), 0);
        people(0, 9);
        due("still(), all being THERE", x.still(), 0);
        x.change(0, 2, 9);
        x.tie(0, 1, 0);
        due("still(), one being HELD", x.still(), 0);
        edge(17, "the fewest");
        one(0, 0, 9, 3);
        one(0, 0, 4, 3);
        due("still()", x.still(), 9);
        x.change(0, 2, 1);
        due("still()", x.still(), 4);
        x.change(1, 2, 0);
        due("still()", x.still(), 1);
        edge(17, "the fewest: also if the next STEP but one moves again (a DANCER, at each even CLOCK)");
        one(3, 0, 9, 4);
        one(0, 0, 0, 3);
        x.tie(0, 1, 0);
        due("still()", x.still(), 1);
        x.go(1);
        dueOf(1, 2, 2);
        due("still()", x.still(), 0);
        x.go(1);
        dueOf(1, 2, 2);
        due("still()", x.still(), 1);
        edge(17, "NONE: never still");
        dancers();
        due("still()", x.still(), NONE);
    }

    private static void length() {
        edge(18, "LENGTH 0 at least: THERE already");
        people(0, 9);
        x.tie(0, 1, 4);
        due("length(0)", x.length(0), 0);
        edge(18, "LENGTH 0 at least: the MATE goes along");
        one(0, 0, 3, 9);
        one(0, 0, 0, 0);
        x.tie(0, 1, 9);
        due("length(0)", x.length(0), 0);
        edge(18, "the least: one less is too short");
        one(0, 0, 9, 3);
        people(0);
        x.tie(0, 1, 0);
        due("length(0)", x.length(0), 9);
        x.tie(0, 1, 8);
        due("when(0) by 8", x.when(0), NONE);
        x.tie(0, 1, 9);
        due("when(0) by 9", x.when(0), 9);
        edge(18, "the least: SLACK makes it shorter");
        one(5, 0, 9, 3);
        people(0);
        x.tie(0, 1, 99);
        due("length(0)", x.length(0), 6);
        x.change(1, 0, 5);
        due("length(0)", x.length(0), 3);
        edge(18, "the greatest DISTANCE is still within 99");
        one(0, 0, 9, 3);
        people(0);
        for (int p = 0; p < 9; p++) x.way(p, p + 1, 9);
        x.tie(0, 1, 0);
        due("length(0)", x.length(0), 81);
        due("rope(0) as it was", x.rope(0), 0);
        edge(18, "NONE: more than 99 would do (999 of FAR)");
        one(0, 5, 9, 3);
        people(0);
        x.way(0, 1, 0);
        x.tie(0, 1, 999);
        due("when(0) by 999", x.when(0), 4);
        due("length(0)", x.length(0), NONE);
        edge(18, "NONE: by no LENGTH");
        one(6, 0, 9, 3);
        people(0);
        x.tie(0, 1, 9);
        due("length(0)", x.length(0), NONE);
        edge(18, "NONE: also without a MATE");
        people(0, 0);
        due("length(0)", x.length(0), NONE);
        x.tie(0, 1, 0);
        due("length(0)", x.length(0), 0);
        x.cut(0);
        due("length(1)", x.length(1), NONE);
        edge(18, "BEYOND: no such PERSON");
        due("length(0) of nobody", x.length(0), BEYOND);
        people(0, 0);
        for (int p : STRANGERS) due("length(" + p + ")", x.length(p), BEYOND);
    }

    private static void kindFor() {
        edge(19, "THERE already: the least KIND, behind 0");
        x.person(6, 4);
        due("kindFor(0)", x.kindFor(0), 0);
        edge(19, "behind the fewest STEPS, of several the least");
        one(6, 0, 9, 3);
        due("of 9 moves, a THIEF's three", x.kindFor(0), 4);
        x.change(0, 2, 4);
        due("of 4 moves, two of a RUNNER", x.kindFor(0), 2);
        x.change(0, 2, 1);
        due("of 1 move, anybody's", x.kindFor(0), 0);
        edge(19, "the KIND: 1");
        one(3, 0, 7, 3);
        one(5, 0, 2, 6);
        x.tie(0, 1, 0);
        due("kindFor(0)", x.kindFor(0), 1);
        edge(19, "the KIND: 3");
        one(4, 0, 8, 5);
        one(1, 1, 6, 0);
        x.tie(0, 1, 2);
        due("kindFor(0)", x.kindFor(0), 3);
        edge(19, "the KIND: 5");
        one(0, 0, 3, 0);
        one(0, 0, 0, 9);
        x.tie(0, 1, 0);
        due("kindFor(0)", x.kindFor(0), 5);
        x.change(0, 2, 4);
        due("kindFor(0), a SAILOR's ROPE too short by 1", x.kindFor(0), NONE);
        edge(19, "the KIND: 6, who waits and is drawn over the WAY of 8");
        x.way(7, 2, 8);
        one(1, 9, 2, 0);
        one(1, 9, 3, 6);
        x.tie(0, 1, 2);
        due("kindFor(0)", x.kindFor(0), 6);
        due("KIND as it was", x.of(0, 0), 1);
        edge(19, "NONE: as none");
        one(0, 0, 9, 3);
        x.way(8, 9, 0);
        due("kindFor(0)", x.kindFor(0), NONE);
        edge(19, "BEYOND: no such PERSON");
        due("kindFor(0) of nobody", x.kindFor(0), BEYOND);
        people(0, 0);
        for (int p : STRANGERS) due("kindFor(" + p + ")", x.kindFor(p), BEYOND);
    }

    private static void lead() {
        edge(20, "PLACES from 0: of several the least");
        people(5, 5);
        x.tie(0, 1, 0);
        due("lead(0), THERE already", x.lead(0), 0);
        edge(20, "behind the fewest STEPS: by none but one");
        one(0, 5, 8, 3);
        people(5);
        x.tie(0, 1, 0);
        due("lead(0), both being as strong", x.lead(0), NONE);
        x.tie(0, 1, 1);
        due("lead(0)", x.lead(0), 7);
        x.change(1, 2, 9);
        due("lead(0), whatever the ERRAND is now", x.lead(0), 7);
        due("of(1, 2)", x.of(1, 2), 9);
        edge(20, "PLACES to 9");
        one(4, 4, 9, 4);
        one(3, 4, 2, 2);
        x.tie(0, 1, 0);
        due("lead(0)", x.lead(0), 9);
        edge(20, "the own ERRAND of the MATE may be the PLACE");
        one(0, 5, 8, 3);
        one(0, 5, 7, 3);
        x.tie(0, 1, 1);
        due("lead(0)", x.lead(0), 7);
        edge(20, "NONE: by none");
        one(0, 5, 8, 3);
        x.person(6, 5);
        x.tie(0, 1, 1);
        due("lead(0)", x.lead(0), NONE);
        edge(20, "NONE: also without a MATE");
        people(5, 5);
        due("lead(0)", x.lead(0), NONE);
        x.tie(0, 1, 0);
        x.cut(1);
        due("lead(0)", x.lead(0), NONE);
        edge(20, "BEYOND: no such PERSON");
        due("lead(0) of nobody", x.lead(0), BEYOND);
        people(0, 0);
        for (int p : STRANGERS) due("lead(" + p + ")", x.lead(p), BEYOND);
    }

    // Each two at one PLACE, by a ROPE of 0; the first of them would go away.
    private static void fourRopes(int... errands) {
        for (int i = 0; i < 4; i++) {
            one(0, 4, errands[i], 3);
            people(4);
            x.tie(2 * i, 2 * i + 1, 0);
        }
    }

    private static void cuts() {
        edge(21, "the empty set: nobody, no ROPE");
        due("cuts() of nobody", x.cuts(), 0);
        one(0, 0, 9, 3);
        due("cuts() of one", x.cuts(), 0);
        people(0);
        due("cuts() of two who are free", x.cuts(), 0);
        edge(21, "the fewest cuts: those that are of no use are none");
        fourRopes(4, 4, 4, 4);
        due("cuts(), all being THERE", x.cuts(), 0);
        x.change(0, 2, 9);
        x.change(0, 0, 6);
        due("cuts(), an ANCHOR gaining nothing", x.cuts(), 0);
        edge(21, "every set of four ROPES");
        for (int set = 0; set < 16; set++) {
            x = new StrangerRopes();
            fourRopes((set & 1) != 0 ? 9 : 4, (set & 2) != 0 ? 9 : 4, (set & 4) != 0 ? 0 : 4, (set & 8) != 0 ? 0 : 4);
            int want = (set & 1) + (set & 2) * 2 + (set & 4) * 4 + (set & 8) * 8;
            due("cuts() for " + set, x.cuts(), want);
            due("freed() for " + set, x.freed(), 8);
        }
        edge(21, "one of each two, the lesser number: not the one who gains");
        people(4, 4, 4, 4, 4, 4);
        one(0, 4, 9, 3);
        one(0, 4, 9, 3);
        x.tie(6, 7, 0);
        x.change(6, 2, 4);
        due("cuts()", x.cuts(), 64);
        x.tie(7, 0, 0);
        due("cuts()", x.cuts(), 1);
        edge(21, "a ROPE that leads is not cut");
        one(1, 0, 3, 9);
        one(6, 0, 3, 0);
        x.tie(0, 1, 0);
        due("cuts()", x.cuts(), 0);
        due("freed()", x.freed(), 2);
        edge(21, "behind 60 STEPS: one who is THERE at 59 is not");
        dancers();
        x.tie(0, 1, 1);
        due("ahead(59)", x.ahead(59), 1);
        due("cuts()", x.cuts(), 1);
        due("freed()", x.freed(), 2);
        due("count(2) as it was", x.count(2), 1);
    }

    private static void freed() {
        edge(22, "how many: 0 of nobody, 8 of 8");
        due("freed() of nobody", x.freed(), 0);
        for (int p = 1; p < 9; p++) {
            people(4);
            due("freed() of " + p, x.freed(), p);
        }
        edge(22, "THERE behind 60 STEPS: not those who never are");
        one(6, 0, 9, 3);
        due("freed() of an ANCHOR", x.freed(), 0);
        people(4);
        x.tie(0, 1, 0);
        due("freed() of both", x.freed(), 1);
        due("cuts()", x.cuts(), 0);
    }

    private static void apart() {
        edge(23, "whichever is more");
        people(0, 3);
        due("where they are, as far as the ERRANDS", x.apart(0, 1), 3);
        x.change(1, 2, 4);
        due("ERRANDS by 1 more", x.apart(0, 1), 4);
        due("the other way round", x.apart(1, 0), 4);
        x.change(1, 2, 2);
        due("ERRANDS by 1 less", x.apart(0, 1), 3);
        due("the other way round", x.apart(1, 0), 3);
        edge(23, "0 at one PLACE; FAR");
        people(5, 5);
        due("apart(0, 1)", x.apart(0, 1), 0);
        x.way(4, 5, 0);
        x.change(1, 2, 4);
        due("apart(0, 1)", x.apart(0, 1), 999);
        edge(23, "BEYOND: also one and the same");
        due("apart(0, 0) of nobody", x.apart(0, 0), BEYOND);
        people(5, 5);
        due("apart(0, 0)", x.apart(0, 0), BEYOND);
        due("apart(1, 1)", x.apart(1, 1), BEYOND);
        for (int p : STRANGERS) {
            due("apart(" + p + ", 0)", x.apart(p, 0), BEYOND);
            due("apart(0, " + p + ")", x.apart(0, p), BEYOND);
        }
    }

    private static void least() {
        edge(24, "0, if there is nobody; just one is free if they are odd in number");
        int[] places = {0, 9, 1, 8, 5, 4, 9, 0};
        int[] wants = {0, 9, 1, 2, 2, 3, 2, 6};
        due("least() of nobody", x.least(), 0);
        for (int p = 0; p < 8; p++) {
            people(places[p]);
            due("least() of " + (p + 1), x.least(), wants[p]);
        }
        edge(24, "not the nearest first: the sum of all");
        people(0, 1, 2, 4);
        due("least()", x.least(), 3);
        people(1, 2);
        due("least()", x.least(), 4);
        edge(24, "the greatest sum: all of 8 FAR from one another");
        for (int a = 0; a < 9; a++) x.way(a, a + 1, 0);
        people(0, 1, 2, 3, 4, 5, 6);
        due("least() of 7", x.least(), 2997);
        people(7);
        due("least() of 8", x.least(), 3996);
        edge(24, "whatever ROPES there are");
        people(0, 5, 0, 5);
        x.tie(0, 1, 99);
        due("least()", x.least(), 0);
        due("count(4)", x.count(4), 99);
    }

    private static void mate() {
        edge(25, "who has none yet, by numbers: free if that does");
        people(4);
        dueMates(-1);
        people(4);
        dueMates(1, 0);
        people(4);
        dueMates(-1, 2, 1);
        people(4, 4);
        dueMates(-1, 2, 1, 4, 3);
        edge(25, "free if that does: it does not");
        people(0, 1, 9);
        dueMates(1, 0, -1);
        edge(25, "free if that does, though with another it would, too");
        people(0, 1, 2);
        dueMates(-1, 2, 1);
        edge(25, "else with the least that does");
        people(4, 0, 4, 4);
        dueMates(1, 0, 3, 2);
        x.change(1, 1, 4);
        x.change(1, 2, 4);
        dueMates(1, 0, 3, 2);
        edge(25, "else with the least that does: not the least of all");
        people(0, 9, 8, 0);
        dueMates(3, 2, 1, 0);
        edge(25, "all of 8");
        people(0, 1, 2, 3, 3, 2, 1, 0);
        dueMates(7, 6, 5, 4, 3, 2, 1, 0);
        edge(25, "BEYOND: no such PERSON");
        due("mate(0) of nobody", x.mate(0), BEYOND);
        people(0, 0);
        for (int p : STRANGERS) due("mate(" + p + ")", x.mate(p), BEYOND);
    }

    private static void dueMates(int... wants) {
        for (int p = 0; p < wants.length; p++) due("mate(" + p + ")", x.mate(p), wants[p]);
    }

    private static void ways() {
        edge(26, "how many: nobody to 8, all alike");
        int[] wants = {1, 1, 1, 3, 3, 15, 15, 105, 105};
        for (int n = 0; n < 9; n++) {
            due("ways() of " + n, x.ways(), wants[n]);
            people(4);
        }
        edge(26, "with as little ROPE together: no more than the least");
        people(0, 1, 2, 3);
        due("ways()", x.ways(), 1);
        x.change(2, 1, 1);
        x.change(2, 2, 1);
        due("ways()", x.ways(), 3);
        edge(26, "all FAR from one another");
        for (int a = 0; a < 9; a++) x.way(a, a + 1, 0);
        people(0, 1, 2, 3, 4, 5, 6, 7);
        due("ways()", x.ways(), 105);
    }

    // PERSON 0 stays at 4; 1 draws it along from the second STEP on, 2 twice in each, 3 never.
    private static void fourWhoTug() {
        one(0, 4, 4, 0);
        one(0, 4, 9, 9);
        one(2, 4, 9, 9);
        one(0, 4, 4, 9);
    }

    private static void fits() {
        edge(27, "BEYOND: no such sheet");
        fourWhoTug();
        int[] others = {-1, 4, LEAST, MOST};
        for (int s : others) due("fits(" + s + ", 0, 1)", x.fits(s, 0, 1), BEYOND);
        edge(27, "MISSING");
        fourWhoTug();
        for (int s = 0; s < 4; s++) due("fits(" + s + ", 0, 1)", x.fits(s, 0, 1), MISSING);
        edge(27, "BEYOND: no such sheet, then MISSING, then BEYOND: PERSON, v");
        fourWhoTug();
        due("fits(4, 9, 100)", x.fits(4, 9, 100), BEYOND);
        due("fits(0, 9, 1)", x.fits(0, 9, 1), MISSING);
        due("fits(0, 0, 100)", x.fits(0, 0, 100), MISSING);
        x.sheet(0, 8, 1);
        due("fits(0, 4, 1)", x.fits(0, 4, 1), BEYOND);
        due("fits(0, -1, 1)", x.fits(0, -1, 1), BEYOND);
        due("fits(0, 3, 1)", x.fits(0, 3, 1), 3);
        edge(27, "LENGTH v 0 to 99");
        fourWhoTug();
        x.sheet(3, 8, 1);
        due("fits(3, 0, -1)", x.fits(3, 0, -1), BEYOND);
        due("fits(3, 0, 100)", x.fits(3, 0, 100), BEYOND);
        due("fits(3, 0, LEAST)", x.fits(3, 0, LEAST), BEYOND);
        due("fits(3, 0, MOST)", x.fits(3, 0, MOST), BEYOND);
        due("fits(3, 0, 0)", x.fits(3, 0, 0), 1);
        due("fits(3, 0, 99)", x.fits(3, 0, 99), 3);
        edge(27, "one number for each STEP: none of an empty sheet");
        fourWhoTug();
        x.sheet(0, 8, 0);
        due("fits(0, 0, 0)", x.fits(0, 0, 0), 3);
        edge(27, "one number for each STEP: 40, the last of them counting");
        fourWhoTug();
        x.sheet(0, 8, 40);
        due("fits(0, 0, 99)", x.fits(0, 0, 99), 3);
        due("fits(0, 0, 0)", x.fits(0, 0, 0), 1);
        x.write(0, 39, 1);
        due("fits(0, 0, 99)", x.fits(0, 0, 99), 0);
        edge(27, "unlike it: nobody, if there is no other");
        people(0);
        x.sheet(0, 8, 1);
        due("fits(0, 0, 0)", x.fits(0, 0, 0), 0);
        edge(27, "seven are unlike it");
        people(0, 0, 0, 0, 0, 0, 0, 0);
        x.sheet(0, 8, 5);
        due("fits(0, 7, 0)", x.fits(0, 7, 0), 7);
    }

    private static void fitsByMate() {
        edge(27, "just as often: 0, 1, 2 in a STEP");
        fourWhoTug();
        row(0, 8, 0);
        row(1, 16, 1);
        row(2, 32, 2);
        row(3, 8, 3);
        due("fits(0, 0, 0)", x.fits(0, 0, 0), 1);
        due("fits(1, 0, 0)", x.fits(1, 0, 0), 1);
        due("fits(2, 0, 0)", x.fits(2, 0, 0), 1);
        due("fits(3, 0, 0)", x.fits(3, 0, 0), 0);
        edge(27, "one number for each STEP: another one in each");
        fourWhoTug();
        row(0, 8, 0, 1, 1, 1);
        row(1, 8, 1, 2, 1, 0);
        row(2, 8, 0, 1, 1, 0);
        row(3, 8, 0, 0, 1, 1);
        due("fits(0, 0, 1)", x.fits(0, 0, 1), 1);
        due("fits(1, 0, 1)", x.fits(1, 0, 1), 1);
        due("fits(2, 0, 1)", x.fits(2, 0, 1), 0);
        due("fits(3, 0, 1)", x.fits(3, 0, 1), 0);
        due("fits(3, 0, 2)", x.fits(3, 0, 2), 1);
        edge(27, "numbers are told with their sign and lowest bits");
        fourWhoTug();
        row(0, 8, 257);
        row(1, 8, 255);
        row(2, 16, 65537);
        row(3, 32, 65537);
        due("fits(0, 0, 0)", x.fits(0, 0, 0), 1);
        due("fits(1, 0, 0)", x.fits(1, 0, 0), 0);
        due("fits(2, 0, 0)", x.fits(2, 0, 0), 1);
        due("fits(3, 0, 0)", x.fits(3, 0, 0), 0);
        edge(27, "as if tie() had made them so: no matter who the MATES are now");
        fourWhoTug();
        row(0, 8, 1);
        x.tie(1, 2, 0);
        x.tie(0, 3, 0);
        due("fits(0, 0, 0)", x.fits(0, 0, 0), 1);
        dueOf(3, 3, 2, 1, 0);
        edge(27, "as if tie() had made them so: also if the ROPE doesn't LET them be there");
        one(0, 0, 0, 0);
        one(0, 5, 9, 9);
        row(0, 8, 0, 0);
        due("fits(0, 0, 1)", x.fits(0, 0, 1), 1);
        row(0, 8, 1, 1);
        due("fits(0, 0, 5)", x.fits(0, 0, 5), 1);
        edge(27, "from now on: TUGS that were are none");
        fourWhoTug();
        x.tie(0, 1, 0);
        x.go(2);
        due("of(0, 8)", x.of(0, 8), 2);
        row(0, 8, 1);
        due("fits(0, 0, 0)", x.fits(0, 0, 0), 1);
        edge(27, "from now on: though TUGS are 9999 at most");
        one(1, 0, 0, 3);
        people(0);
        x.tie(0, 1, 0);
        for (int i = 0; i < 400; i++) x.days(10);
        x.change(0, 2, x.of(0, 1) == 0 ? 1 : 0);
        due("of(1, 8)", x.of(1, 8), 9999);
        row(0, 8, 1);
        due("fits(0, 1, 0)", x.fits(0, 1, 0), 1);
    }

    private static void who() {
        edge(28, "as a set: each of these PEOPLE");
        fourWhoTug();
        row(0, 8, 0);
        row(1, 8, 1);
        row(2, 8, 2);
        row(3, 8);
        due("who(0, 0, 0)", x.who(0, 0, 0), 8);
        due("who(1, 0, 0)", x.who(1, 0, 0), 2);
        due("who(2, 0, 0)", x.who(2, 0, 0), 4);
        due("who(3, 0, 0)", x.who(3, 0, 0), 14);
        due("who(3, 3, 0)", x.who(3, 3, 0), 7);
        edge(28, "as a set: all of 8 but it; nobody");
        people(0, 0, 0, 0, 0, 0, 0, 0);
        row(0, 8, 0);
        due("who(0, 0, 99)", x.who(0, 0, 99), 254);
        due("who(0, 7, 99)", x.who(0, 7, 99), 127);
        row(0, 8, 1);
        due("who(0, 7, 99)", x.who(0, 7, 99), 0);
        edge(28, "BEYOND: no such sheet. MISSING. BEYOND likewise");
        people(0, 0);
        int[] others = {-1, 4, LEAST, MOST};
        for (int s : others) due("who(" + s + ", 0, 1)", x.who(s, 0, 1), BEYOND);
        for (int s = 0; s < 4; s++) due("who(" + s + ", 9, 100)", x.who(s, 9, 100), MISSING);
        row(3, 8, 0);
        for (int p : STRANGERS) due("who(3, " + p + ", 1)", x.who(3, p, 1), BEYOND);
        due("who(3, 0, -1)", x.who(3, 0, -1), BEYOND);
        due("who(3, 0, 100)", x.who(3, 0, 100), BEYOND);
        due("who(3, 0, LEAST)", x.who(3, 0, LEAST), BEYOND);
        due("who(3, 0, MOST)", x.who(3, 0, MOST), BEYOND);
        due("who(3, 1, 99)", x.who(3, 1, 99), 1);
    }

    private static void pulls() {
        edge(29, "a set of PEOPLE: from the empty one to all");
        due("pulls(0) of nobody", x.pulls(0), 0);
        for (int n = 0; n <= 8; n++) {
            int all = (1 << n) - 1;
            due("all of " + n, x.pulls(all), 0);
            due("1 beyond all of " + n, x.pulls(all + 1), BEYOND);
            due("no set of " + n, x.pulls(-1), BEYOND);
            people(0);
        }
        due("pulls(LEAST)", x.pulls(LEAST), BEYOND);
        due("pulls(MOST)", x.pulls(MOST), BEYOND);
        edge(29, "BEYOND: one of a set is nobody");
        people(0, 0);
        due("pulls(5)", x.pulls(5), BEYOND);
        due("pulls(3)", x.pulls(3), 0);
        edge(29, "the empty set pulls nobody, also of PULLS 0");
        one(0, 0, 0, 0);
        one(0, 0, 0, 0);
        due("pulls(0)", x.pulls(0), 0);
        due("pulls(1), as much as the other", x.pulls(1), 0);
        edge(29, "less than those of the set together: by 1, just as many");
        one(0, 0, 0, 2);
        one(0, 0, 0, 3);
        one(0, 0, 0, 4);
        one(0, 0, 0, 5);
        one(0, 0, 0, 6);
        due("pulls(3)", x.pulls(3), 4);
        due("pulls(7)", x.pulls(7), 24);
        due("pulls(4)", x.pulls(4), 3);
        edge(29, "who isn't in the set");
        one(0, 0, 0, 9);
        one(0, 0, 0, 1);
        due("pulls(3)", x.pulls(3), 0);
        due("pulls(1)", x.pulls(1), 2);
        due("pulls(2)", x.pulls(2), 0);
        edge(29, "the strongest eight");
        for (int p = 0; p < 8; p++) one(6, 0, 0, 9);
        due("pulls(127)", x.pulls(127), 128);
        due("pulls(128)", x.pulls(128), 0);
    }

    private static void knots() {
        edge(30, "n 0 to 6");
        due("knots(0, 7)", x.knots(0, 7), 1);
        due("knots(1, 7)", x.knots(1, 7), 7);
        due("knots(6, 7)", x.knots(6, 7), 117649);
        int[] others = {-1, 7, LEAST, MOST};
        for (int n : others) due("knots(" + n + ", 7)", x.knots(n, 7), BEYOND);
        edge(30, "v 1 to 99");
        due("knots(2, 1)", x.knots(2, 1), 1);
        due("knots(2, 99)", x.knots(2, 99), 9801);
        int[] beyond = {0, -1, 100, LEAST, MOST};
        for (int v : beyond) {
            due("knots(2, " + v + ")", x.knots(2, v), BEYOND);
            due("knots(0, " + v + ")", x.knots(0, v), BEYOND);
        }
        edge(30, "a long: more than an int holds");
        due("knots(4, 99)", x.knots(4, 99), 96059601L);
        due("knots(5, 74)", x.knots(5, 74), 2219006624L);
        due("knots(6, 99)", x.knots(6, 99), 941480149401L);
        edge(30, "FINDINGS in longs, too");
        due("knots(7, 0)", x.knots(7, 0), -1000001L);
        due("status(0)", x.status(0), 1);
    }

    private static int drawn(int[] z) {
        z[0] = z[0] * 1103515245 + 12345;
        return (z[0] >>> 8) % 10;
    }

    private static void days() {
        edge(31, "n days (1 to 10)");
        int[] others = {0, 11, -1, LEAST, MOST};
        for (int n : others) due("days(" + n + ")", x.days(n), BEYOND);
        due("count(0)", x.count(0), 0);
        due("days(1) of nobody", x.days(1), 0);
        due("count(0)", x.count(0), 10);
        due("days(10) of nobody", x.days(10), 0);
        due("count(0)", x.count(0), 110);
        due("count(6)", x.count(6), 1);
        edge(31, "how often one was THERE at the end of a day: all of 8, ten days");
        people(0, 1, 2, 3, 4, 5, 6, 7);
        due("days(10)", x.days(10), 80);
        due("now(1)", x.now(1), 255);
        edge(31, "how often one was THERE at the end of a day: none");
        people(0);
        apartFromAll(0);
        int[] z = {1};
        int there = 0;
        for (int day = 0; day < 10; day++) there += drawn(z) == 0 ? 1 : 0;
        due("days(10)", x.days(10), there);
        due("of(0, 1)", x.of(0, 1), 0);
        edge(31, "a draw for each PERSON by numbers: z wraps around, its rest by 10 is never below 0");
        int[] begins = {1, 0, -1, LEAST, MOST, 123456789};
        for (int begin : begins) {
            x = new StrangerRopes();
            people(0, 0, 0);
            x.seed(begin);
            int[] own = {begin};
            for (int day = 0; day < 8; day++) {
                due("days(1) from " + begin, x.days(1), 3);
                dueOf(2, drawn(own), drawn(own), drawn(own));
            }
            due("count(6)", x.count(6), own[0]);
        }
        edge(31, "10 STEPS a day: 9 would do for one who walks");
        one(0, 0, 0, 3);
        x.way(0, 9, 9);
        due("days(10)", x.days(10), 10);
        due("count(0)", x.count(0), 100);
    }

    private static void seed() {
        edge(32, "z may be any int: that is no finding");
        int[] values = {0, -1, LEAST, MOST, -1000001, -1000004, -1000007, 5};
        int before = 1;
        for (int v : values) {
            due("seed(" + v + ")", x.seed(v), before);
            due("count(6)", x.count(6), v);
            before = v;
        }
        due("status(-1)", x.status(-1), 0);
        edge(32, "z is drawn from what was told");
        people(0);
        x.seed(0);
        x.days(1);
        due("count(6)", x.count(6), 12345);
        due("of(0, 2)", x.of(0, 2), (12345 >>> 8) % 10);
        x.seed(MOST);
        x.days(1);
        due("count(6)", x.count(6), MOST * 1103515245 + 12345);
    }
}
