/** The edges that the document names for texts, spots, sheets, images and counts: promises 33 to 47. */
public final class KeepingEdgesTest extends Edges {
    private static final int[] NO_SHEETS = {-1, 4, LEAST, MOST};

    public static void main(String[] args) {
        begin("KeepingEdgesTest");
        feed();
        wipe();
        text();
        words();
        persons();
        ways();
        ties();
        tooEarly();
        hold();
        as();
        sheet();
        write();
        bits();
        copy();
        copyRows();
        load();
        judge();
        image();
        undo();
        tear();
        count();
        counts();
        status();
        end(33, 47);
    }

    private static void feed() {
        edge(33, "n 1 to 4");
        int[] others = {0, 5, -1, LEAST, MOST};
        for (int n : others) due("feed(0, " + n + ")", x.feed(0, n), BEYOND);
        due("count(5)", x.count(5), 0);
        int size = 0;
        for (int n = 1; n < 5; n++) {
            size += n;
            due("feed(0, " + n + ")", x.feed(0, n), size);
        }
        edge(33, "at most 120; FULL");
        for (int i = 1; i <= 29; i++) due("feed(0, 4)", x.feed(0, 4), 4 * i);
        due("feed(0, 3)", x.feed(0, 3), 119);
        for (int n = 2; n < 5; n++) due("feed(0, " + n + ") at 119", x.feed(0, n), FULL);
        due("count(5)", x.count(5), 119);
        due("feed(0, 1) at 119", x.feed(0, 1), 120);
        for (int n = 1; n < 5; n++) due("feed(0, " + n + ") at 120", x.feed(0, n), FULL);
        due("count(5)", x.count(5), 120);
        edge(33, "FULL, and nothing of it is on THE TAPE");
        feed("way 0 1 5");
        for (int i = 0; i < 36; i++) x.feed(0x3b3b3b, 3);
        due("feed(0, 4) at 117", x.feed(0, 4), FULL);
        due("feed(0, 3) at 117", x.feed(0, 3), 120);
        edge(33, "BEYOND, then FULL");
        for (int i = 0; i < 30; i++) x.feed(0, 4);
        due("feed(0, 0)", x.feed(0, 0), BEYOND);
        due("feed(0, 5)", x.feed(0, 5), BEYOND);
        due("feed(0, 1)", x.feed(0, 1), FULL);
        edge(33, "the n lowest bytes, the highest of these first");
        x.feed('w' << 24 | 'a' << 16 | 'y' << 8 | ' ', 4);
        x.feed('#' << 24 | '0' << 16 | ' ' << 8 | '9', 3);
        x.feed('#' << 24 | '#' << 16 | ' ' << 8 | '7', 2);
        x.feed('#' << 24 | '#' << 16 | '#' << 8 | ' ', 1);
        due("text()", x.text(), 1);
        due("far(0, 9)", x.far(0, 9), 7);
        edge(33, "of a number below 0");
        x.feed(0xffffff00 | 'w', 1);
        x.feed(0xffff0000 | 'a' << 8 | 'y', 2);
        x.feed(0xff000000 | ' ' << 16 | '0' << 8 | ' ', 3);
        x.feed('9' << 24 | ' ' << 16 | '4' << 8 | 255, 4);
        due("text(), the last byte being 255", x.text(), -10);
    }

    private static void wipe() {
        edge(34, "how many it had: 0 to 120");
        due("wipe() of none", x.wipe(), 0);
        x.feed(0, 1);
        due("wipe() of one", x.wipe(), 1);
        due("wipe() once more", x.wipe(), 0);
        for (int i = 0; i < 30; i++) x.feed(0, 4);
        due("wipe() of 120", x.wipe(), 120);
        due("count(5)", x.count(5), 0);
        for (int i = 1; i <= 30; i++) due("feed(0, 4)", x.feed(0, 4), 4 * i);
        edge(34, "THE TAPE is empty: what was on it is no part of a TEXT");
        feed("person at");
        x.wipe();
        dueText("way 0 1 2", 1);
        due("count(1)", x.count(1), 0);
    }

    private static void text() {
        edge(35, "how many ITEMS, and THE TAPE is empty then");
        dueText("person", 1);
        dueText("person;person", 2);
        dueText("person;way 0 1 2;tie 0 1 5", 3);
        due("text() of an empty TAPE", x.text(), -1);
        edge(35, "at most 120 bytes: all of them are read");
        String ten = "way 0 1 2;";
        dueText(ten.repeat(11) + "way 8 9 5 ", 12);
        due("far(8, 9)", x.far(8, 9), 5);
        due("far(0, 1)", x.far(0, 1), 2);
        dueText(ten.repeat(12), -121);
        dueText(ten.repeat(11) + "way 8 9 4#", -120);
        dueText("thief;".repeat(8) + " ".repeat(72), -121);
        dueText(" ".repeat(120), -121);
        due("far(8, 9)", x.far(8, 9), 5);
        due("count(1)", x.count(1), 0);
        edge(35, "most ITEMS that 120 bytes can tell");
        dueText("way0 1 2;".repeat(13) + "tie", -121);
        dueText("stout;".repeat(8) + "tie0 1 2;".repeat(7) + "way0 1 9", 16);
        due("count(1)", x.count(1), 8);
        edge(35, "item by item: what a later one tells is so");
        dueText("way 0 1 2;way 1 0 3;person;person;person;tie 0 1 4;tie 2 1 5", 7);
        due("far(0, 1)", x.far(0, 1), 3);
        dueOf(3, -1, 2, 1);
        edge(35, "with a FAULT nothing changes but that THE TAPE is empty; no finding");
        people(0, 0);
        dueText("way 0 1 2;person;tie 0 1 4;runner at 3;way 5 5 1", -46);
        due("far(0, 1)", x.far(0, 1), 1);
        due("count(1)", x.count(1), 2);
        due("count(2)", x.count(2), 0);
        due("status(-1)", x.status(-1), 0);
        edge(35, "-1 less the FAULT: place 0");
        dueText("#", -1);
        dueText("", -1);
        due("status(-1)", x.status(-1), 0);
    }

    private static void words() {
        edge(35, "TOKENS, each as long as can be: WORDS");
        dueText("persons", -1);
        dueText("perso", -1);
        dueText("personperson", -1);
        dueText("person atx 1", -8);
        dueText("personat 1", -1);
        dueText("p", -1);
        dueText("xerson", -1);
        dueText("bay 0 1 2", -1);
        dueText("waz 0 1 2", -1);
        dueText("personz", -1);
        dueText("persona", -1);
        dueText("zperson", -1);
        edge(35, "WORDS (letters a to z)");
        dueText("Person", -1);
        dueText("persoN", -1);
        dueText("person`", -7);
        dueText("person{", -7);
        dueText("person to 0 z", -13);
        dueText("person a", -8);
        edge(35, "NUMBERS (digits, 999 at most)");
        people(0, 0);
        dueText("tie 0 1 999", 1);
        dueText("tie 0 1 1000", -9);
        dueText("tie 0 1 9999999999999999999999", -9);
        dueText("tie 0 1 4294967296", -9);
        dueText("tie 0 1 -1", -9);
        dueText("tie 0 1 1 1", -11);
        dueText("person at /", -11);
        dueText("person at :", -11);
        due("rope(0)", x.rope(0), 999);
        edge(35, "blanks may stand between, and need not");
        dueText("  person   at   3   ;   stout  ", 2);
        dueText("way0 1 2;way1 2 3;thief at4to5strength6;person", 4);
        dueText("way 012", -5);
        dueText("way 0 1 02", 1);
        dueText("way 0 12", -7);
        dueOf(1, 3, 0, 4, 0);
        edge(35, "SIGN ;");
        dueText(";", -1);
        dueText(";person", -1);
        dueText("person;;person", -8);
        dueText("person,person", -7);
        dueText("person:", -7);
        dueText("person person", -8);
        edge(35, "a byte that begins no TOKEN");
        int[] bytes = {0, 9, 10, 13, 31, 33, 127, 128, 160, 255};
        for (int b : bytes) {
            feed("person");
            x.feed(b, 1);
            due("text() with the byte " + b, x.text(), -7);
        }
        due("count(1)", x.count(1), 0);
    }

    private static void persons() {
        edge(35, "person, stout, runner, sailor, dancer, thief or anchor");
        dueText("person;stout;runner;sailor;dancer;thief;anchor", 7);
        dueOf(0, 0, 1, 2, 5, 3, 4, 6);
        edge(35, "AT 0 without; ERRAND without: where one is; STRENGTH 3 at first");
        dueText("person;person at 4;person to 5;person at 4 to 5;person strength 0", 5);
        dueOf(1, 0, 4, 0, 4, 0);
        dueOf(2, 0, 4, 5, 5, 0);
        dueOf(4, 3, 3, 3, 3, 0);
        edge(35, "ERRAND without: where one is, each of eight");
        dueText("person at 3;stout at 5;runner at 7;person;person at 9;person at 1", 6);
        dueText("person at 2 strength 4;person at 8", 2);
        dueOf(1, 3, 5, 7, 0, 9, 1, 2, 8);
        dueOf(2, 3, 5, 7, 0, 9, 1, 2, 8);
        edge(35, "at and a NUMBER (0 to 9)");
        dueText("person at 0;person at 9", 2);
        dueText("person at 10", -11);
        dueText("person at 999", -11);
        dueText("person at to 1", -11);
        dueText("person at", -10);
        edge(35, "to and a NUMBER (0 to 9)");
        dueText("person to 0;person to 9", 2);
        dueText("person to 10", -11);
        dueText("person at 3 to 10", -16);
        dueText("person to strength", -11);
        dueText("person at 3 to", -15);
        edge(35, "strength and a NUMBER (0 to 9)");
        dueText("person strength 0;person strength 9", 2);
        dueText("person strength 10", -17);
        dueText("person at 1 to 2 strength 10", -27);
        dueText("person strength", -16);
        edge(35, "perhaps at, perhaps to, perhaps strength: in this order, each once");
        dueText("person to 1 at 1", -13);
        dueText("person strength 1 at 1", -19);
        dueText("person strength 1 to 1", -19);
        dueText("person at 1 at 1", -13);
        dueText("person to 1 to 1", -13);
        dueText("person strength 1 strength 1", -19);
        dueText("person 5", -8);
        due("count(1)", x.count(1), 0);
        edge(35, "the WORD of a 9th one: its own");
        dueText("thief;".repeat(8) + "thief at 10", -49);
        dueText("thief;".repeat(7) + "thief", 8);
        dueText("person", -1);
        dueText("way 0 1 2; stout", -12);
        dueText("way 0 1 2", 1);
        edge(35, "the WORD of a 9th one: those who were there count");
        people(0, 0, 0, 0, 0, 0, 0);
        dueText("person;person", -8);
        due("count(1)", x.count(1), 7);
        dueText("person", 1);
        due("count(1)", x.count(1), 8);
    }

    private static void ways() {
        edge(35, "way, three NUMBERS: PLACES 0 to 9, v 0 to 9");
        dueText("way 0 9 9", 1);
        due("far(0, 9)", x.far(0, 9), 9);
        dueText("way 9 0 0", 1);
        due("count(3)", x.count(3), 9);
        dueText("way 10 0 1", -5);
        dueText("way 0 10 1", -7);
        dueText("way 0 1 10", -9);
        dueText("way 999 0 1", -5);
        edge(35, "way: two unlike PLACES");
        for (int p = 0; p < 10; p++) dueText("way " + p + " " + p + " 1", -7);
        dueText("way 3 03 1", -7);
        edge(35, "way: three, no less and no more");
        dueText("way", -4);
        dueText("way 1", -6);
        dueText("way 1 2", -8);
        dueText("way 1 2;", -8);
        dueText("way 1 2 3 4", -11);
        dueText("way way", -5);
        due("count(3)", x.count(3), 9);
    }

    private static void ties() {
        edge(35, "tie: two unlike PEOPLE there by then");
        dueText("tie 0 1 0", -5);
        people(0);
        dueText("tie 0 1 0", -7);
        dueText("tie 1 0 0", -5);
        dueText("tie 0 1 0;person", -7);
        dueText("person;tie 0 1 0", 2);
        dueText("tie 0 2 0", -7);
        dueText("tie 2 0 0", -5);
        dueText("tie 0 0 0", -7);
        dueText("tie 1 1 0", -7);
        dueText("person;person;person;person;person;person;tie 7 0 3", 7);
        dueText("tie 7 8 0", -7);
        dueText("tie 8 7 0", -5);
        dueOf(3, 7, -1, -1, -1, -1, -1, -1, 0);
        edge(35, "tie: LENGTH 0 to 999");
        people(0, 0);
        dueText("tie 0 1 0", 1);
        due("rope(0)", x.rope(0), 0);
        dueText("tie 0 1 999", 1);
        due("rope(0)", x.rope(0), 999);
        dueText("tie 0 1 1000", -9);
        due("rope(0)", x.rope(0), 999);
        edge(35, "tie, as tie() has it, also if the ROPE doesn't LET them be there");
        people(0, 9, 5, 5);
        x.tie(0, 2, 3);
        x.tie(1, 3, 3);
        dueText("tie 0 1 0", 1);
        dueOf(3, 1, 0, -1, -1);
        due("may(0, 0)", x.may(0, 0), 0);
    }

    private static void tooEarly() {
        edge(35, "how many bytes there are if it ends too early");
        dueText("", -1);
        dueText(" ", -2);
        dueText("person;", -8);
        dueText("person; ", -9);
        dueText("person at", -10);
        dueText("person at ", -11);
        dueText("way 0", -6);
        dueText("way 0 1 ", -9);
        edge(35, "the first TOKEN that can't stand there, though later ones can't either");
        dueText("way 0 0 99;walk", -7);
        dueText("person at 11 to 11", -11);
        dueText("walk 999999#", -1);
    }

    private static void hold() {
        edge(36, "SPOTS 0 to 9");
        people(0);
        due("hold(0, 0)", x.hold(0, 0), 1);
        due("hold(9, 0)", x.hold(9, 0), 1);
        int[] others = {-1, 10, LEAST, MOST};
        for (int spot : others) due("hold(" + spot + ", 0)", x.hold(spot, 0), BEYOND);
        due("count(7)", x.count(7), 2);
        edge(36, "a PERSON, or nothing (-1)");
        due("hold(0, -1) of nobody", x.hold(0, -1), 1);
        due("hold(0, 0) of nobody", x.hold(0, 0), BEYOND);
        people(0, 0);
        due("hold(0, 1)", x.hold(0, 1), 1);
        due("hold(0, 2)", x.hold(0, 2), BEYOND);
        due("hold(0, -2)", x.hold(0, -2), BEYOND);
        due("hold(0, LEAST)", x.hold(0, LEAST), BEYOND);
        due("hold(0, MOST)", x.hold(0, MOST), BEYOND);
        due("as(0, 0)", x.as(0, 0), 1);
        due("hold(0, -1)", x.hold(0, -1), 1);
        due("as(0, 0)", x.as(0, 0), MISSING);
        edge(36, "one may be held by all SPOTS; a SPOT holds the latest");
        people(0, 0, 0, 0, 0, 0, 0, 0);
        for (int spot = 0; spot < 10; spot++) due("hold(" + spot + ", 7)", x.hold(spot, 7), 1);
        due("count(7)", x.count(7), 10);
        due("hold(4, 3)", x.hold(4, 3), 1);
        for (int spot = 0; spot < 10; spot++) due("as(" + spot + ", 0)", x.as(spot, 0), spot == 4 ? 3 : 7);
    }

    private static void as() {
        edge(37, "a kind (0 to 6)");
        people(0);
        x.hold(0, 0);
        int[] others = {-1, 7, LEAST, MOST};
        for (int kind : others) due("as(0, " + kind + ")", x.as(0, kind), BEYOND);
        due("as(0, 0)", x.as(0, 0), 0);
        due("as(0, 6)", x.as(0, 6), KIND);
        edge(37, "BEYOND: no such SPOT");
        people(0);
        int[] spots = {-1, 10, LEAST, MOST};
        for (int spot : spots) due("as(" + spot + ", 0)", x.as(spot, 0), BEYOND);
        edge(37, "BEYOND, then MISSING");
        for (int spot = 0; spot < 10; spot++) {
            due("as(" + spot + ", 7)", x.as(spot, 7), BEYOND);
            due("as(" + spot + ", 6)", x.as(spot, 6), MISSING);
        }
        edge(37, "KIND: it isn't of that kind, nor of one under it");
        int[] under = {127, 66, 28, 24, 16, 32, 64};
        for (int p = 0; p < 7; p++) {
            x.person(p, 0);
            x.hold(p, p);
        }
        for (int kind = 0; kind < 7; kind++) {
            for (int p = 0; p < 7; p++) {
                due("as(" + p + ", " + kind + ")", x.as(p, kind), (under[kind] >> p & 1) != 0 ? p : KIND);
            }
        }
        edge(37, "of the KIND that one is now");
        x.person(6, 0);
        x.hold(0, 0);
        due("as(0, 1)", x.as(0, 1), 0);
        x.change(0, 0, 5);
        due("as(0, 1)", x.as(0, 1), KIND);
        due("as(0, 5)", x.as(0, 5), 0);
    }

    private static void sheet() {
        edge(38, "BEYOND: no such sheet");
        for (int s : NO_SHEETS) due("sheet(" + s + ", 8, 1)", x.sheet(s, 8, 1), BEYOND);
        due("sheet(0, 8, 1)", x.sheet(0, 8, 1), 1);
        due("sheet(3, 8, 1)", x.sheet(3, 8, 1), 1);
        edge(38, "BEYOND: other bits");
        int[] others = {-8, -1, 1, 7, 9, 15, 17, 24, 31, 33, 64, LEAST, MOST};
        for (int bits : others) due("sheet(0, " + bits + ", 1)", x.sheet(0, bits, 1), BEYOND);
        int[] right = {8, 16, 32};
        for (int bits : right) due("sheet(0, " + bits + ", 1)", x.sheet(0, bits, 1), 1);
        edge(38, "SIZE: n is below 0 (also with bits 0)");
        int[] all = {0, 8, 16, 32};
        for (int bits : all) {
            due("sheet(0, " + bits + ", -1)", x.sheet(0, bits, -1), SIZE);
            due("sheet(0, " + bits + ", LEAST)", x.sheet(0, bits, LEAST), SIZE);
            due("sheet(0, " + bits + ", 0)", x.sheet(0, bits, 0), 0);
        }
        edge(38, "BEYOND: n is above 40 (also with bits 0)");
        for (int bits : all) {
            due("sheet(0, " + bits + ", 41)", x.sheet(0, bits, 41), BEYOND);
            due("sheet(0, " + bits + ", MOST)", x.sheet(0, bits, MOST), BEYOND);
            due("sheet(0, " + bits + ", 40)", x.sheet(0, bits, 40), bits == 0 ? 0 : 40);
        }
        edge(38, "BEYOND (no such sheet, other bits), then SIZE");
        due("sheet(4, 8, -1)", x.sheet(4, 8, -1), BEYOND);
        due("sheet(-1, 0, -1)", x.sheet(-1, 0, -1), BEYOND);
        due("sheet(0, 9, -1)", x.sheet(0, 9, -1), BEYOND);
        due("status(6)", x.status(6), 0);
        edge(38, "bits 0: it is MISSING: 0");
        x.sheet(2, 8, 5);
        due("sheet(2, 0, 5)", x.sheet(2, 0, 5), 0);
        due("write(2, 0, 0)", x.write(2, 0, 0), MISSING);
        edge(38, "n numbers: none, 40");
        due("sheet(2, 8, 0)", x.sheet(2, 8, 0), 0);
        due("write(2, 0, 0)", x.write(2, 0, 0), BEYOND);
        due("sheet(2, 8, 40)", x.sheet(2, 8, 40), 40);
        due("write(2, 39, 1)", x.write(2, 39, 1), 1);
        due("write(2, 40, 1)", x.write(2, 40, 1), BEYOND);
        edge(38, "all 0");
        people(5, 5, 5, 5, 5, 5, 5, 5);
        row(1, 8, 1, 2, 3, 4, 5, 6, 7, 8);
        due("sheet(1, 8, 8)", x.sheet(1, 8, 8), 8);
        due("load(1)", x.load(1), 8);
        dueOf(2, 0, 0, 0, 0, 0, 0, 0, 0);
        row(1, 8, 1, 2, 3, 4, 5, 6, 7, 8);
        x.sheet(1, 8, 3);
        x.sheet(1, 0, 0);
        x.sheet(1, 16, 8);
        due("load(1)", x.load(1), 8);
        dueOf(2, 0, 0, 0, 0, 0, 0, 0, 0);
        edge(38, "the last of 40 is 0, too");
        people(5, 5, 5, 5, 5, 5, 5, 5);
        x.sheet(0, 8, 40);
        for (int i = 32; i < 40; i++) x.write(0, i, 9);
        x.sheet(0, 8, 40);
        x.copy(0, 32, 0, 0, 8);
        due("load(0)", x.load(0), 8);
        dueOf(2, 0, 0, 0, 0, 0, 0, 0, 0);
    }

    private static void write() {
        edge(39, "BEYOND: no such sheet. MISSING. BEYOND: no such number");
        for (int s : NO_SHEETS) due("write(" + s + ", 0, 0)", x.write(s, 0, 0), BEYOND);
        for (int s = 0; s < 4; s++) due("write(" + s + ", 0, 0)", x.write(s, 0, 0), MISSING);
        due("write(0, -1, 0)", x.write(0, -1, 0), MISSING);
        due("write(0, 40, 0)", x.write(0, 40, 0), MISSING);
        x.sheet(0, 8, 3);
        int[] others = {-1, 3, 40, LEAST, MOST};
        for (int i : others) due("write(0, " + i + ", 0)", x.write(0, i, 0), BEYOND);
        for (int i = 0; i < 3; i++) due("write(0, " + i + ", 0)", x.write(0, i, 0), 1);
        edge(39, "of 40 numbers, the first and the last; the sheet beside it stays");
        people(5);
        x.sheet(1, 8, 40);
        x.sheet(2, 8, 40);
        due("write(1, 0, 7)", x.write(1, 0, 7), 1);
        due("write(1, 39, 8)", x.write(1, 39, 8), 1);
        due("write(1, 40, 9)", x.write(1, 40, 9), BEYOND);
        x.load(1);
        dueOf(2, 7);
        x.copy(1, 39, 1, 0, 1);
        x.load(1);
        dueOf(2, 8);
        x.load(2);
        dueOf(2, 0);
        edge(39, "of an empty sheet none");
        x.sheet(0, 8, 0);
        due("write(0, 0, 0)", x.write(0, 0, 0), BEYOND);
    }

    // The ERRAND that a number becomes by load(), or -1 if it is none.
    private static void dueErrand(int bits, int v, int want) {
        row(0, bits, v);
        due("load(0) of " + v + ", " + bits + " bits", x.load(0), want < 0 ? 0 : 1);
        if (want >= 0) due("of(0, 2)", x.of(0, 2), want);
    }

    private static void bits() {
        edge(39, "its lowest bits: 8");
        people(5);
        dueErrand(8, 9, 9);
        dueErrand(8, 10, -1);
        dueErrand(8, 127, -1);
        dueErrand(8, 128, -1);
        dueErrand(8, 255, -1);
        dueErrand(8, 256, 0);
        dueErrand(8, 265, 9);
        dueErrand(8, 266, -1);
        dueErrand(8, -1, -1);
        dueErrand(8, -256, 0);
        dueErrand(8, -249, 7);
        dueErrand(8, LEAST, 0);
        dueErrand(8, MOST, -1);
        edge(39, "its lowest bits: 16");
        people(5);
        dueErrand(16, 256, -1);
        dueErrand(16, 265, -1);
        dueErrand(16, 32768, -1);
        dueErrand(16, 65535, -1);
        dueErrand(16, 65536, 0);
        dueErrand(16, 65545, 9);
        dueErrand(16, -65536, 0);
        dueErrand(16, -65529, 7);
        dueErrand(16, LEAST, 0);
        dueErrand(16, MOST, -1);
        edge(39, "its lowest bits: 32");
        people(5);
        dueErrand(32, 256, -1);
        dueErrand(32, 65536, -1);
        dueErrand(32, -65536, -1);
        dueErrand(32, LEAST, -1);
        dueErrand(32, MOST, -1);
        dueErrand(32, 0, 0);
        dueErrand(32, 9, 9);
    }

    private static void copy() {
        edge(40, "BEYOND: no such sheet (either)");
        x.sheet(0, 8, 3);
        for (int s : NO_SHEETS) {
            due("copy(" + s + ", 0, 0, 0, 1)", x.copy(s, 0, 0, 0, 1), BEYOND);
            due("copy(0, 0, " + s + ", 0, 1)", x.copy(0, 0, s, 0, 1), BEYOND);
            due("copy(" + s + ", 0, 1, 0, 1), 1 being MISSING", x.copy(s, 0, 1, 0, 1), BEYOND);
            due("copy(1, 0, " + s + ", 0, 1), 1 being MISSING", x.copy(1, 0, s, 0, 1), BEYOND);
        }
        due("copy(0, 0, 0, 0, 1)", x.copy(0, 0, 0, 0, 1), 1);
        edge(40, "MISSING: one is");
        x.sheet(0, 8, 3);
        due("copy(0, 0, 3, 0, 1)", x.copy(0, 0, 3, 0, 1), MISSING);
        due("copy(3, 0, 0, 0, 1)", x.copy(3, 0, 0, 0, 1), MISSING);
        due("copy(3, 0, 2, 0, 1)", x.copy(3, 0, 2, 0, 1), MISSING);
        due("copy(3, 0, 3, 0, 0)", x.copy(3, 0, 3, 0, 0), MISSING);
        due("copy(3, -1, 0, 99, -1)", x.copy(3, -1, 0, 99, -1), MISSING);
        edge(40, "KIND: they are not of as many bits, then BEYOND");
        x.sheet(0, 8, 3);
        x.sheet(1, 16, 3);
        x.sheet(2, 32, 3);
        for (int s = 0; s < 3; s++) {
            for (int t = 0; t < 3; t++) {
                due("copy(" + s + ", 0, " + t + ", 0, 1)", x.copy(s, 0, t, 0, 1), s == t ? 1 : KIND);
                due("copy(" + s + ", 0, " + t + ", 0, 4)", x.copy(s, 0, t, 0, 4), s == t ? BEYOND : KIND);
                due("copy(" + s + ", 0, " + t + ", 0, -1)", x.copy(s, 0, t, 0, -1), s == t ? BEYOND : KIND);
            }
        }
        edge(40, "BEYOND: one has not so many");
        x.sheet(0, 8, 5);
        x.sheet(1, 8, 3);
        due("copy(0, 0, 1, 0, 3)", x.copy(0, 0, 1, 0, 3), 3);
        due("copy(0, 0, 1, 0, 4)", x.copy(0, 0, 1, 0, 4), BEYOND);
        due("copy(1, 0, 0, 0, 4)", x.copy(1, 0, 0, 0, 4), BEYOND);
        due("copy(0, 2, 1, 0, 3)", x.copy(0, 2, 1, 0, 3), 3);
        due("copy(0, 3, 1, 0, 3)", x.copy(0, 3, 1, 0, 3), BEYOND);
        due("copy(0, 0, 1, 1, 2)", x.copy(0, 0, 1, 1, 2), 2);
        due("copy(0, 0, 1, 1, 3)", x.copy(0, 0, 1, 1, 3), BEYOND);
        due("copy(0, 5, 1, 0, 0)", x.copy(0, 5, 1, 0, 0), 0);
        due("copy(0, 6, 1, 0, 0)", x.copy(0, 6, 1, 0, 0), BEYOND);
        due("copy(0, 0, 1, 3, 0)", x.copy(0, 0, 1, 3, 0), 0);
        due("copy(0, 0, 1, 4, 0)", x.copy(0, 0, 1, 4, 0), BEYOND);
        edge(40, "BEYOND: from, to or n is below 0; sums that would wrap around");
        x.sheet(0, 8, 5);
        x.sheet(1, 8, 3);
        int[][] wrong = {{-1, 0, 1}, {0, -1, 1}, {0, 0, -1}, {LEAST, 0, 1}, {0, LEAST, 1}, {0, 0, LEAST}, {MOST, 0, 1},
            {0, MOST, 1}, {0, 0, MOST}, {MOST, 0, MOST}, {0, MOST, MOST}, {1, 1, MOST}, {MOST, MOST, 2}, {-1, -1, 2},
            {5, 3, LEAST}, {-1, 0, 0}, {0, -1, 0}};
        for (int[] w : wrong) {
            due("copy(0, " + w[0] + ", 1, " + w[1] + ", " + w[2] + ")", x.copy(0, w[0], 1, w[1], w[2]), BEYOND);
        }
        due("copy(0, 0, 1, 0, 0)", x.copy(0, 0, 1, 0, 0), 0);
    }

    private static void dueLoaded(int s, int... wants) {
        due("load(" + s + ")", x.load(s), wants.length);
        dueOf(2, wants);
    }

    private static void copyRows() {
        edge(40, "from one on come to another one from one on: those beside them stay");
        people(0, 0, 0, 0, 0);
        row(0, 8, 1, 2, 3, 4, 5);
        row(1, 8, 9, 8, 7, 6, 5);
        due("copy(0, 1, 1, 2, 2)", x.copy(0, 1, 1, 2, 2), 2);
        dueLoaded(1, 9, 8, 2, 3, 5);
        dueLoaded(0, 1, 2, 3, 4, 5);
        edge(40, "as they all were: onto the same sheet, up");
        people(0, 0, 0, 0, 0);
        row(0, 8, 1, 2, 3, 4, 5);
        due("copy(0, 0, 0, 1, 4)", x.copy(0, 0, 0, 1, 4), 4);
        dueLoaded(0, 1, 1, 2, 3, 4);
        edge(40, "as they all were: onto the same sheet, down");
        people(0, 0, 0, 0, 0);
        row(0, 8, 1, 2, 3, 4, 5);
        due("copy(0, 1, 0, 0, 4)", x.copy(0, 1, 0, 0, 4), 4);
        dueLoaded(0, 2, 3, 4, 5, 5);
        due("copy(0, 0, 0, 0, 5)", x.copy(0, 0, 0, 0, 5), 5);
        dueLoaded(0, 2, 3, 4, 5, 5);
        edge(40, "all of 40");
        people(0, 0, 0, 0, 0, 0, 0, 0);
        x.sheet(2, 16, 40);
        x.sheet(3, 16, 40);
        for (int i = 0; i < 40; i++) x.write(2, i, i % 10);
        due("copy(2, 0, 3, 0, 40)", x.copy(2, 0, 3, 0, 40), 40);
        due("copy(2, 0, 3, 0, 41)", x.copy(2, 0, 3, 0, 41), BEYOND);
        for (int i = 0; i < 40; i += 8) {
            x.copy(3, i, 3, 0, 8);
            dueLoaded(3, i % 10, (i + 1) % 10, (i + 2) % 10, (i + 3) % 10, (i + 4) % 10, (i + 5) % 10,
                (i + 6) % 10, (i + 7) % 10);
        }
    }

    private static void load() {
        edge(41, "BEYOND: no such sheet. MISSING");
        people(0);
        for (int s : NO_SHEETS) due("load(" + s + ")", x.load(s), BEYOND);
        for (int s = 0; s < 4; s++) due("load(" + s + ")", x.load(s), MISSING);
        edge(41, "how many came: none of an empty sheet, none if there is nobody");
        x.sheet(0, 8, 0);
        x.sheet(1, 8, 5);
        due("load(0)", x.load(0), 0);
        due("load(1)", x.load(1), 0);
        people(3);
        due("load(0)", x.load(0), 0);
        dueOf(2, 3);
        edge(41, "it ends at the first for which there is no PERSON");
        people(0, 0);
        row(0, 8, 5, 6, 7);
        due("load(0) for two", x.load(0), 2);
        people(0);
        due("load(0) for three", x.load(0), 3);
        people(0);
        due("load(0) for four", x.load(0), 3);
        dueOf(2, 5, 6, 7, 0);
        edge(41, "40 numbers for 8 PEOPLE");
        people(1, 1, 1, 1, 1, 1, 1, 1);
        x.sheet(0, 32, 40);
        due("load(0)", x.load(0), 8);
        dueOf(2, 0, 0, 0, 0, 0, 0, 0, 0);
        edge(41, "it ends at the first that isn't 0 to 9");
        int[] others = {-1, 10, LEAST, MOST};
        for (int v : others) {
            x = new StrangerRopes();
            people(1, 1, 1, 1);
            row(0, 32, 0, 9, v, 5);
            due("load(0) with " + v, x.load(0), 2);
            dueOf(2, 0, 9, 1, 1);
            x.write(0, 0, v);
            due("load(0) with " + v + " at once", x.load(0), 0);
        }
    }

    private static void judge() {
        edge(42, "BEYOND: no such sheet. MISSING");
        people(0);
        for (int s : NO_SHEETS) due("judge(" + s + ")", x.judge(s), BEYOND);
        for (int s = 0; s < 4; s++) due("judge(" + s + ")", x.judge(s), MISSING);
        edge(42, "all are not, if there is nobody: but none is no number");
        x.sheet(0, 8, 0);
        x.sheet(1, 8, 1);
        x.sheet(2, 8, 40);
        row(3, 8, -1, -1);
        due("judge(0)", x.judge(0), 0);
        due("judge(1)", x.judge(1), 1);
        due("judge(2)", x.judge(2), 1);
        due("judge(3)", x.judge(3), 1);
        edge(42, "1 and the place of the first that isn't so: of 40");
        one(0, 0, 9, 3);
        x.sheet(0, 8, 40);
        for (int i = 0; i < 40; i++) {
            due("judge(0), right up to " + i, x.judge(0), 1 + i);
            x.write(0, i, Math.min(i + 1, 9));
        }
        due("judge(0), right", x.judge(0), 0);
        x.write(0, 39, 8);
        due("judge(0), all but the last", x.judge(0), 40);
        x.write(0, 0, 0);
        due("judge(0), the first not", x.judge(0), 1);
        edge(42, "behind each STEP from now on: not where PERSON 0 is now");
        one(0, 3, 5, 3);
        row(0, 8, 3);
        row(1, 8, 4, 5, 5);
        due("judge(0)", x.judge(0), 1);
        due("judge(1)", x.judge(1), 0);
        edge(42, "PERSON 0, no other");
        people(4, 5);
        row(0, 8, 4);
        row(1, 8, 5);
        due("judge(0)", x.judge(0), 0);
        due("judge(1)", x.judge(1), 1);
    }

    private static void image() {
        edge(43, "all but THE TAPE and SHEETS is kept");
        one(4, 3, 8, 7);
        one(5, 4, 0, 1);
        x.tie(0, 1, 1);
        x.way(0, 9, 6);
        x.hold(9, 1);
        x.seed(-7);
        x.go(5);
        int[][] was = new int[2][9];
        for (int p = 0; p < 2; p++) {
            for (int what = 0; what < 9; what++) was[p][what] = x.of(p, what);
        }
        dueOf(7, 0, 4);
        dueOf(8, 0, 1);
        due("image()", x.image(), 1);
        x.days(10);
        due("TUGS that are more", x.now(4) > 1 ? 1 : 0, 1);
        due("HOLDS that are more", x.now(3) > 4 ? 1 : 0, 1);
        x.cut(0);
        for (int p = 0; p < 2; p++) {
            x.change(p, 0, 2);
            x.change(p, 1, 9 - p);
            x.change(p, 2, p + 5);
            x.change(p, 4, 9);
        }
        x.person(6, 6);
        x.tie(0, 2, 9);
        x.way(0, 9, 0);
        x.way(4, 5, 0);
        x.hold(9, -1);
        x.hold(0, 2);
        x.days(1);
        due("undo()", x.undo(), 5);
        int[] counts = {5, 2, 1, 15, 1, 0, -7, 1};
        for (int i = 0; i < counts.length; i++) due("count(" + i + ")", x.count(i), counts[i]);
        for (int what = 0; what < 9; what++) dueOf(what, was[0][what], was[1][what]);
        due("rope(1)", x.rope(1), 1);
        due("as(9, 0)", x.as(9, 0), 1);
        due("as(0, 0)", x.as(0, 0), MISSING);
        due("far(0, 9)", x.far(0, 9), 6);
        due("far(4, 5)", x.far(4, 5), 1);
        edge(43, "WAYS, and all that goes by them");
        x.way(4, 5, 0);
        x.way(1, 5, 2);
        x.way(3, 7, 9);
        one(0, 4, 5, 9);
        one(0, 2, 3, 0);
        x.tie(0, 1, 2);
        x.image();
        x.way(4, 5, 1);
        x.way(3, 7, 0);
        x.way(1, 5, 0);
        due("far(4, 5)", x.far(4, 5), 1);
        due("next(0)", x.next(0), 5);
        x.undo();
        due("far(4, 5)", x.far(4, 5), 5);
        due("next(0)", x.next(0), 3);
        edge(43, "WAYS, each of them");
        x.image();
        for (int p = 0; p < 9; p++) x.way(p, p + 1, 0);
        for (int p = 0; p < 8; p++) x.way(p, p + 2, 9);
        x.undo();
        for (int a = 0; a < 10; a++) {
            for (int b = 0; b < 10; b++) due("far(" + a + ", " + b + ")", x.far(a, b), Math.abs(a - b));
        }
        people(0);
        for (int a = 0; a < 10; a++) {
            x.change(0, 1, a);
            for (int b = 0; b < 10; b++) {
                x.change(0, 2, b);
                due("next(0) from " + a + " to " + b, x.next(0), a + Integer.compare(b, a));
            }
        }
        edge(43, "WAYS, and the PLACES to which one is TUGGED by them");
        x.way(0, 3, 9);
        one(0, 2, 9, 9);
        one(0, 0, 3, 0);
        x.tie(0, 1, 2);
        x.image();
        x.way(0, 3, 0);
        x.go(1);
        dueOf(1, 3, 2);
        x.undo();
        x.go(1);
        dueOf(1, 3, 3);
        edge(43, "WAYS, and the PLACES to which one is TUGGED by them: from the last one");
        x.way(9, 6, 9);
        one(0, 7, 0, 9);
        one(0, 9, 6, 0);
        x.tie(0, 1, 2);
        x.image();
        x.way(9, 6, 0);
        x.undo();
        x.go(1);
        dueOf(1, 6, 6);
        edge(43, "not THE TAPE, not SHEETS");
        people(0);
        feed("person;");
        row(0, 8, 4);
        row(1, 8, 5);
        x.image();
        feed("runner at 7");
        x.write(0, 0, 6);
        x.sheet(1, 0, 0);
        x.sheet(2, 8, 1);
        due("undo()", x.undo(), 0);
        due("count(5)", x.count(5), 18);
        dueLoaded(0, 6);
        due("load(1)", x.load(1), MISSING);
        dueLoaded(2, 0);
        due("text()", x.text(), 2);
        edge(43, "of an object that is as at first");
        due("image()", x.image(), 1);
        people(0, 0, 0, 0, 0, 0, 0, 0);
        x.go(40);
        due("undo()", x.undo(), 0);
        due("count(1)", x.count(1), 0);
        due("person(1, 1)", x.person(1, 1), 0);
    }

    private static void undo() {
        edge(44, "NONE: nothing is kept");
        due("undo()", x.undo(), NONE);
        people(0);
        x.go(3);
        due("undo()", x.undo(), NONE);
        due("count(0)", x.count(0), 3);
        due("count(1)", x.count(1), 1);
        edge(44, "what was kept latest (which stays)");
        x.image();
        x.go(1);
        x.image();
        for (int i = 0; i < 3; i++) {
            x.go(5);
            people(4);
            due("undo()", x.undo(), 1);
            due("count(1)", x.count(1), 0);
        }
        edge(44, "what becomes of it then is no part of the image");
        people(0, 0);
        x.tie(0, 1, 5);
        x.hold(3, 0);
        x.image();
        x.undo();
        x.cut(0);
        x.hold(3, -1);
        x.way(0, 1, 9);
        x.change(0, 2, 9);
        x.seed(9);
        due("undo()", x.undo(), 0);
        due("rope(0)", x.rope(0), 5);
        due("as(3, 0)", x.as(3, 0), 0);
        due("far(0, 1)", x.far(0, 1), 1);
        due("of(0, 2)", x.of(0, 2), 0);
        due("seed(0)", x.seed(0), 1);
    }

    private static void tear() {
        edge(45, "1 if something was, else 0");
        due("tear() of nothing", x.tear(), 0);
        x.image();
        due("tear()", x.tear(), 1);
        due("tear() once more", x.tear(), 0);
        due("undo()", x.undo(), NONE);
        edge(45, "nothing is kept: not the one before the latest either");
        x.image();
        x.go(1);
        x.image();
        due("tear()", x.tear(), 1);
        due("undo()", x.undo(), NONE);
        due("tear()", x.tear(), 0);
        edge(45, "1 if something was: it stays behind undo()");
        x.image();
        x.undo();
        due("tear()", x.tear(), 1);
        edge(45, "nothing is kept: but a later image is");
        x.image();
        x.tear();
        x.go(2);
        x.image();
        x.go(2);
        due("undo()", x.undo(), 2);
    }

    private static void count() {
        edge(46, "BEYOND: another what");
        int[] others = {-1, 8, LEAST, MOST};
        for (int what : others) due("count(" + what + ")", x.count(what), BEYOND);
        edge(46, "0 CLOCK, 1 PEOPLE: from 0 on");
        due("count(0)", x.count(0), 0);
        x.go(1);
        due("count(0)", x.count(0), 1);
        for (int n = 0; n <= 8; n++) {
            due("count(1)", x.count(1), n);
            x.person(0, 0);
        }
        due("count(1)", x.count(1), 8);
        edge(46, "2 ROPES, 4 LENGTHS of all ROPES together: none to four");
        people(0, 0, 0, 0, 0, 0, 0, 0);
        for (int i = 0; i < 4; i++) {
            due("count(2)", x.count(2), i);
            due("count(4)", x.count(4), 999 * i);
            x.tie(7 - i, i, 999);
        }
        due("count(2)", x.count(2), 4);
        due("count(4)", x.count(4), 3996);
        x.cut(3);
        due("count(2)", x.count(2), 3);
        due("count(4)", x.count(4), 2997);
    }

    private static void counts() {
        edge(46, "3 lengths of all WAYS together: none, all");
        due("count(3)", x.count(3), 9);
        for (int a = 0; a < 10; a++) {
            for (int b = 0; b < a; b++) x.way(a, b, 9);
        }
        due("count(3)", x.count(3), 405);
        for (int a = 0; a < 10; a++) {
            for (int b = 0; b < a; b++) x.way(b, a, 0);
        }
        due("count(3)", x.count(3), 0);
        edge(46, "5 bytes of THE TAPE: none to 120");
        for (int n = 0; n < 120; n++) {
            due("count(5)", x.count(5), n);
            x.feed(0, 1);
        }
        due("count(5)", x.count(5), 120);
        edge(46, "6 z: any int, no finding");
        x.seed(-1000001);
        due("count(6)", x.count(6), -1000001);
        x.seed(LEAST);
        due("count(6)", x.count(6), LEAST);
        due("status(-1)", x.status(-1), 0);
        edge(46, "7 SPOTS that hold something: none to 10");
        people(0);
        for (int spot = 0; spot < 10; spot++) {
            due("count(7)", x.count(7), spot);
            x.hold(spot, 0);
        }
        due("count(7)", x.count(7), 10);
    }

    // One act for each finding, BEYOND to SIZE.
    private static void oneFindingOfEach() {
        due("BEYOND", x.far(0, 10), -1000001);
        for (int i = 0; i < 30; i++) x.feed(0, 4);
        due("FULL", x.feed(0, 1), -1000002);
        people(0, 0);
        x.hold(0, 0);
        due("KIND", x.as(0, 1), -1000003);
        due("NONE", x.cut(0), -1000004);
        x.tie(0, 1, 0);
        due("STATE", x.change(0, 1, 1), -1000005);
        due("MISSING", x.load(0), -1000006);
        due("SIZE", x.sheet(0, 8, -1), -1000007);
    }

    private static void status() {
        edge(47, "which -1: all, 0 to 6: BEYOND to SIZE; none at first");
        for (int which = -1; which < 7; which++) due("status(" + which + ")", x.status(which), 0);
        edge(47, "each finding is told by its own number, and counted for itself");
        oneFindingOfEach();
        for (int which = 0; which < 7; which++) due("status(" + which + ")", x.status(which), 1);
        due("status(-1)", x.status(-1), 7);
        oneFindingOfEachAgain();
        edge(47, "BEYOND (counted from then on): another one");
        int[] others = {-2, 7, LEAST, MOST};
        int before = 0;
        for (int which : others) {
            due("status(0)", x.status(0), before);
            due("status(" + which + ")", x.status(which), BEYOND);
            before++;
        }
        due("status(0)", x.status(0), 4);
        due("status(-1)", x.status(-1), 4);
        edge(47, "undo() takes none back, and image() keeps none");
        x.far(0, 10);
        x.image();
        x.far(0, 10);
        x.cut(0);
        x.undo();
        due("status(0)", x.status(0), 3);
        due("status(3)", x.status(3), 0);
        x.undo();
        due("status(0)", x.status(0), 3);
        edge(47, "acts that answered a finding: no others");
        x.go(1);
        x.text();
        x.seed(-1000003);
        x.count(6);
        x.wipe();
        x.tear();
        people(0);
        x.mate(0);
        due("status(-1)", x.status(-1), 0);
    }

    private static void oneFindingOfEachAgain() {
        for (int i = 0; i < 3; i++) {
            x.cut(9);
            x.rope(9);
        }
        due("status(0)", x.status(0), 7);
        due("status(-1)", x.status(-1), 13);
        due("status(3)", x.status(3), 1);
    }
}
