import java.nio.charset.StandardCharsets;
import java.util.Random;

/** Calls by chance (always the same ones), 512 for each object: each answer against the second telling of its act. */
public final class TellingTest {
    private static final int CALLS = 512;
    private static final int[] WILD = {Integer.MIN_VALUE, -1000001, -256, -2, 40, 41, 60, 61, 99, 100, 255, 256, 999,
        1000, 65535, 65536, Integer.MAX_VALUE - 1, Integer.MAX_VALUE};
    private static final String[] WORDS = {"person", "stout", "runner", "dancer", "thief", "sailor", "anchor", "way",
        "tie", "at", "to", "strength", ";", "a", "persons", "Stout", "#", "0", "1", "2", "9", "10", "007", "999", "1000"};
    // Each act with how many numbers it takes; those that make a country stand more than once.
    private static final String[] ACTS = ("way3 way3 far2 person2 person2 person2 of2 of2 change3 change3 change3 tie3 tie3"
        + " cut1 rope1 go1 go1 now1 next1 may2 when1 ahead1 held0 still0 length1 kindFor1 lead1 cuts0 freed0 apart2 least0"
        + " mate1 ways0 fits3 who3 pulls1 knots2 days1 seed1 feed2 wipe0 text0 hold2 hold2 as2 as2 sheet3 sheet3 write3"
        + " write3 copy5 copy5 load1 judge1 image0 undo0 tear0 count1 count1 status1").split(" ");

    private static final Check check = new Check("TellingTest");
    private static Random random = new Random(0);
    private static int run = 0;
    private static int calls = 0;
    private static StrangerRopes x = new StrangerRopes();
    private static Telling told = new Telling();

    public static void main(String[] args) {
        for (run = 0; run < 1000; run++) {
            random = new Random(run);
            x = new StrangerRopes();
            told = new Telling();
            calls = 0;
            while (calls < CALLS) {
                if (random.nextInt(25) == 0) oneText();
                else oneCall();
            }
        }
        check.end();
    }

    private static void oneCall() {
        String act = ACTS[random.nextInt(ACTS.length)];
        int[] v = new int[5];
        for (int i = 0; i < act.charAt(act.length() - 1) - '0'; i++) v[i] = someNumber();
        String name = act.substring(0, act.length() - 1);
        // SHEETS are seldom right by chance, SPOTS hold one seldom.
        if (name.equals("sheet") && random.nextInt(4) > 0) v[1] = random.nextInt(5) * 8;
        // The second telling of these takes long.
        if (name.equals("length") && random.nextInt(8) > 0) return;
        compare(name, v);
    }

    private static int someNumber() {
        int sort = random.nextInt(30);
        if (sort == 0) return random.nextInt();
        if (sort == 1) return WILD[random.nextInt(WILD.length)];
        if (sort < 16) return random.nextInt(4);
        return random.nextInt(12) - 1;
    }

    private static void compare(String name, int... v) {
        if (calls >= CALLS) return;
        calls++;
        String call = "run " + run + ", call " + calls + ": " + name + java.util.Arrays.toString(v);
        check.due(call, answerOf(name, v), told.answer(name, v));
    }

    private static void oneText() {
        StringBuilder text = new StringBuilder();
        int items = 1 + random.nextInt(4);
        for (int i = 0; i < items; i++) text.append(i == 0 ? "" : someBlank() + ";" + someBlank()).append(someItem());
        if (random.nextInt(3) == 0) spoil(text);
        byte[] bytes = text.toString().getBytes(StandardCharsets.ISO_8859_1);
        if (random.nextInt(4) > 0) compare("wipe");
        for (int i = 0; i < bytes.length; i += 4) {
            int n = Math.min(4, bytes.length - i);
            int number = random.nextInt();
            for (int k = 0; k < n; k++) number = number << 8 | bytes[i + k] & 255;
            compare("feed", number, n);
        }
        compare("text");
    }

    private static String someBlank() {
        return " ".repeat(Math.max(0, random.nextInt(4) - 1));
    }

    private static String someItem() {
        int sort = random.nextInt(9);
        if (sort == 7) return "way " + random.nextInt(10) + " " + random.nextInt(10) + " " + random.nextInt(11);
        if (sort == 8) return "tie" + random.nextInt(4) + " " + random.nextInt(4) + " " + random.nextInt(1002);
        String item = WORDS[sort];
        if (random.nextBoolean()) item += " at" + someBlank() + random.nextInt(10);
        if (random.nextBoolean()) item += " to" + someBlank() + random.nextInt(10);
        if (random.nextInt(3) == 0) item += " strength" + someBlank() + random.nextInt(11);
        return item;
    }

    // A byte becomes another, is left out, or a word comes between.
    private static void spoil(StringBuilder text) {
        int at = random.nextInt(text.length());
        int sort = random.nextInt(4);
        if (sort == 0) text.setCharAt(at, (char) random.nextInt(256));
        else if (sort == 1) text.deleteCharAt(at);
        else if (sort == 2) text.insert(at, " " + WORDS[random.nextInt(WORDS.length)] + " ");
        else text.setLength(at);
    }

    private static long answerOf(String name, int[] v) {
        switch (name) {
            case "way": return x.way(v[0], v[1], v[2]);
            case "far": return x.far(v[0], v[1]);
            case "person": return x.person(v[0], v[1]);
            case "of": return x.of(v[0], v[1]);
            case "change": return x.change(v[0], v[1], v[2]);
            case "tie": return x.tie(v[0], v[1], v[2]);
            case "cut": return x.cut(v[0]);
            case "rope": return x.rope(v[0]);
            case "go": return x.go(v[0]);
            case "now": return x.now(v[0]);
            case "next": return x.next(v[0]);
            case "may": return x.may(v[0], v[1]);
            case "when": return x.when(v[0]);
            case "ahead": return x.ahead(v[0]);
            case "held": return x.held();
            case "still": return x.still();
            case "length": return x.length(v[0]);
            case "kindFor": return x.kindFor(v[0]);
            case "lead": return x.lead(v[0]);
            case "cuts": return x.cuts();
            case "freed": return x.freed();
            case "apart": return x.apart(v[0], v[1]);
            case "least": return x.least();
            case "mate": return x.mate(v[0]);
            case "ways": return x.ways();
            case "fits": return x.fits(v[0], v[1], v[2]);
            default: return laterAnswerOf(name, v);
        }
    }

    private static long laterAnswerOf(String name, int[] v) {
        switch (name) {
            case "who": return x.who(v[0], v[1], v[2]);
            case "pulls": return x.pulls(v[0]);
            case "knots": return x.knots(v[0], v[1]);
            case "days": return x.days(v[0]);
            case "seed": return x.seed(v[0]);
            case "feed": return x.feed(v[0], v[1]);
            case "wipe": return x.wipe();
            case "text": return x.text();
            case "hold": return x.hold(v[0], v[1]);
            case "as": return x.as(v[0], v[1]);
            case "sheet": return x.sheet(v[0], v[1], v[2]);
            case "write": return x.write(v[0], v[1], v[2]);
            case "copy": return x.copy(v[0], v[1], v[2], v[3], v[4]);
            case "load": return x.load(v[0]);
            case "judge": return x.judge(v[0]);
            case "image": return x.image();
            case "undo": return x.undo();
            case "tear": return x.tear();
            case "count": return x.count(v[0]);
            case "status": return x.status(v[0]);
            default: throw new IllegalArgumentException(name);
        }
    }
}
