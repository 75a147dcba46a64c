import java.util.ArrayList;
import java.util.List;
import java.util.Random;

/**
 * Calls by chance (always the same ones), with arguments of every size: none throws, each finding is counted,
 * and an act that answers a finding, or that only tells, leaves all as it was.
 */
public final class FuzzTest {
    private static final int METHODS = 50;
    private static final int[] WILD = {Integer.MIN_VALUE, -1000001, -256, -2, -1, 40, 41, 60, 61, 99, 100, 255, 256,
        999, 1000, 65536, Integer.MAX_VALUE - 1, Integer.MAX_VALUE};
    private static final String[] TEXTS = {"person at 3 to 5", "thief;sailor strength 9;tie 0 1 4", "way 0 9 3;tie 1 0 2",
        "anchor at 9 to 0 strength 0", "stout;tie 0 2 1;dancer to 8", "way 3 3 1", "runner at", "tie 0 1 2;walk"};

    private static final Check check = new Check("FuzzTest");

    public static void main(String[] args) {
        for (int run = 0; run < 1500; run++) oneRun(run);
        check.end();
    }

    private static void oneRun(int run) {
        Random random = new Random(run);
        StrangerRopes x = new StrangerRopes();
        List<int[]> acts = new ArrayList<>();
        int[] tallies = new int[7];
        int texts = 0;
        for (int i = 0; i < 140; i++) {
            int[] call = someCall(random);
            if (random.nextInt(12) == 0) {
                String text = TEXTS[random.nextInt(TEXTS.length)];
                for (byte b : text.getBytes()) acts.add(new int[] {32, b, 1, 0, 0, 0});
                feed(x, text);
                call = new int[] {34, 0, 0, 0, 0, 0};
                texts++;
            }
            if (texts > 4) break;
            long answer = answerOf(x, call);
            boolean isFinding = answer <= -1000001 && answer >= -1000007 && !tellsDraw(call);
            if (isFinding) tallies[(int) (-1000001 - answer)]++;
            else if (!onlyTells(call[0])) acts.add(call);
        }
        for (int i = 0; i < 7; i++) check.due("run " + run + ": status(" + i + ")", x.status(i), tallies[i]);
        StrangerRopes other = new StrangerRopes();
        for (int[] act : acts) answerOf(other, act);
        compare(run, x, other);
    }

    private static void feed(StrangerRopes x, String text) {
        for (byte b : text.getBytes()) x.feed(b, 1);
    }

    private static int[] someCall(Random random) {
        int[] call = new int[6];
        call[0] = random.nextInt(3) == 0 ? random.nextInt(8) : random.nextInt(METHODS);
        for (int i = 1; i < 6; i++) {
            int sort = random.nextInt(20);
            if (sort == 0) call[i] = random.nextInt();
            else if (sort == 1) call[i] = WILD[random.nextInt(WILD.length)];
            else if (sort < 8) call[i] = random.nextInt(3);
            else call[i] = random.nextInt(13) - 1;
        }
        // SHEETS have 8 bits more often than any.
        if (call[0] == 37 && random.nextInt(4) > 0) call[2] = 8;
        return call;
    }

    private static boolean tellsDraw(int[] call) {
        return call[0] == 31 || call[0] == 48 && call[1] == 6;
    }

    private static boolean onlyTells(int method) {
        return method == 1 || method == 3 || method == 7 || method >= 9 && method <= 11 || method >= 12 && method <= 29
            || method == 36 || method == 41 || method == 48 || method == 49;
    }

    // What tells all that can be told.
    private static void compare(int run, StrangerRopes x, StrangerRopes y) {
        String at = "run " + run + ": ";
        for (int i = 0; i < 8; i++) check.due(at + "count(" + i + ")", x.count(i), y.count(i));
        for (int a = 0; a < 10; a++) {
            for (int b = 0; b < a; b++) check.due(at + "far(" + a + ", " + b + ")", x.far(a, b), y.far(a, b));
        }
        for (int p = 0; p < x.count(1); p++) {
            for (int i = 0; i < 9; i++) check.due(at + "of(" + p + ", " + i + ")", x.of(p, i), y.of(p, i));
            check.due(at + "rope(" + p + ")", x.rope(p), y.rope(p));
        }
        for (int i = 0; i < 10; i++) check.due(at + "as(" + i + ", 0)", x.as(i, 0), y.as(i, 0));
        for (int s = 0; s < 4; s++) {
            check.due(at + "judge(" + s + ")", x.judge(s), y.judge(s));
            check.due(at + "load(" + s + ")", x.load(s), y.load(s));
        }
        check.due(at + "text()", x.text(), y.text());
        check.due(at + "undo()", x.undo(), y.undo());
        compareKept(at + "behind undo(): ", x, y);
    }

    private static void compareKept(String at, StrangerRopes x, StrangerRopes y) {
        for (int i = 0; i < 8; i++) check.due(at + "count(" + i + ")", x.count(i), y.count(i));
        for (int p = 0; p < x.count(1); p++) {
            for (int i = 0; i < 9; i++) check.due(at + "of(" + p + ", " + i + ")", x.of(p, i), y.of(p, i));
            check.due(at + "next(" + p + ")", x.next(p), y.next(p));
        }
    }

    private static long answerOf(StrangerRopes x, int[] c) {
        switch (c[0]) {
            case 0: return x.person(c[1], c[2]);
            case 1: return x.of(c[1], c[2]);
            case 2: return x.change(c[1], c[2], c[3]);
            case 3: return x.far(c[1], c[2]);
            case 4: return x.way(c[1], c[2], c[3]);
            case 5: return x.tie(c[1], c[2], c[3]);
            case 6: return x.cut(c[1]);
            case 7: return x.rope(c[1]);
            case 8: return x.go(c[1]);
            case 9: return x.now(c[1]);
            case 10: return x.next(c[1]);
            case 11: return x.may(c[1], c[2]);
            case 12: return x.when(c[1]);
            case 13: return x.ahead(c[1]);
            case 14: return x.held();
            case 15: return x.still();
            case 16: return x.length(c[1]);
            case 17: return x.kindFor(c[1]);
            case 18: return x.lead(c[1]);
            case 19: return x.cuts();
            case 20: return x.freed();
            case 21: return x.apart(c[1], c[2]);
            case 22: return x.least();
            case 23: return x.mate(c[1]);
            case 24: return x.ways();
            case 25: return x.fits(c[1], c[2], c[3]);
            case 26: return x.who(c[1], c[2], c[3]);
            case 27: return x.pulls(c[1]);
            case 28: return x.knots(c[1], c[2]);
            case 29: return x.status(-1);
            case 30: return x.days(c[1]);
            case 31: return x.seed(c[1]);
            case 32: return x.feed(c[1], c[2]);
            case 33: return x.wipe();
            case 34: return x.text();
            case 35: return x.hold(c[1], c[2]);
            case 36: return x.as(c[1], c[2]);
            case 37: return x.sheet(c[1], c[2], c[3]);
            case 38: return x.write(c[1], c[2], c[3]);
            case 39: return x.copy(c[1], c[2], c[3], c[4], c[5]);
            case 40: return x.load(c[1]);
            case 41: return x.judge(c[1]);
            case 42: return x.image();
            case 43: return x.undo();
            case 44: return x.tear();
            case 48: return x.count(c[1]);
            case 49: return x.status(c[1]);
            default: return x.copy(c[1], c[2] & 3, c[3], c[4] & 3, c[5] & 7);
        }
    }
}
