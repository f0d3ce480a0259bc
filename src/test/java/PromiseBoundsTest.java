import java.util.LinkedHashMap;
import java.util.Map;

/**
 * What the promises say of refused calls: what each answers for its wrong arguments, and that it
 * leaves the CLIFF, the TUNE, what is FIXED, the TAPE and the MARKS as they were. Then promise by
 * promise the last argument that is taken and the first that is refused.
 */
public final class PromiseBoundsTest extends Checks {
    private static final int THROWN = 1 << 30;
    private static final int[] FAR = {LEAST, LEAST + 1, -1000000, -1000, 1000000, GREATEST - 1, GREATEST};

    interface Call {
        long on(EchoTune x);
    }

    private static long yes(boolean answer) {
        return answer ? 1 : 0;
    }

    private static long voice(EchoTune x, int voice, int beat) {
        return isSilent(x, voice, beat) ? THROWN : x.voice(voice, beat);
    }

    // ---------------------------------------------------------------- what a refused call leaves

    /** An object on which all that a call could spoil is there: MARK 2 has another state, the TAPE two signs. */
    private static EchoTune rich() {
        EchoTune x = on("notes 3;meter 2;law 1;", "2 2 rest");
        x.fix(7, 2);
        x.mark(2, false);
        cliff(x, "notes 4;meter 3;echo late 1 up 1;law not(apart=2);leap not(move=3);pair not(move=other and strong);");
        draft(x, "0 1 rest 2 2");
        x.fix(1, 2);
        x.fix(3, -1);
        tell(x, "31");
        return x;
    }

    /** All that can be asked of the CLIFF, the TUNE and what is FIXED, but for the TAPE. */
    private static String picture(EchoTune x) {
        StringBuilder all = new StringBuilder();
        for (int i = 0; i < 8; i++) {
            all.append(x.count(i)).append(' ');
        }
        for (int t = 0; t < 7; t++) {
            all.append(x.note(t)).append(' ').append(voice(x, 1, t)).append(' ');
        }
        for (int i = 0; i < 5; i++) {
            all.append(x.clash(i)).append(' ').append(x.leastAt(5, i)).append(' ').append(x.mendAt(i)).append(' ');
        }
        all.append(x.end()).append(' ').append(x.clashes()).append(' ').append(x.depth()).append(' ');
        all.append(x.many(5, 0)).append(' ').append(x.many(9, 0)).append(' ').append(x.least(5)).append(' ');
        all.append(x.mend()).append(' ').append(x.endless(3)).append(' ').append(x.longest()).append(' ');
        all.append(x.rounds(3)).append(' ').append(x.round(3, 2)).append(' ');
        all.append(x.delays(1, false)).append(' ').append(x.delays(2, true)).append(' ').append(x.choir(5, 4, 0));
        return all.toString();
    }

    private static void leaves(String name, Call call, long answer, String tape) {
        EchoTune x = rich();
        String before = picture(x);
        due(name, call.on(x), answer);
        due(name + " leaves", picture(x), before);
        due("the TAPE behind " + name, x.count(8), tape.length());
        due("reads as", x.draft(), tape.equals("31") ? 4 : 0);
        EchoTune untouched = rich();
        due("MARK 2 behind " + name, x.mark(2, true), untouched.mark(2, true));
        due("on MARK 2 behind " + name, picture(x), picture(untouched));
        for (int mark = 0; mark < 4; mark++) {
            due("MARK " + mark + " behind " + name, x.mark(mark, true), mark == 2);
        }
    }

    private static Map<String, Call> refusedWithNone() {
        Map<String, Call> calls = new LinkedHashMap<>();
        calls.put("sing(4)", x -> x.sing(4));
        calls.put("sing(-2)", x -> x.sing(-2));
        calls.put("sing(greatest)", x -> x.sing(GREATEST));
        calls.put("sing(least)", x -> x.sing(LEAST));
        calls.put("clash(-1)", x -> x.clash(-1));
        calls.put("clash(5)", x -> x.clash(5));
        calls.put("many(0, 0)", x -> x.many(0, 0));
        calls.put("many(61, 0)", x -> x.many(61, 0));
        calls.put("many(5, -1)", x -> x.many(5, -1));
        calls.put("many(5, 8)", x -> x.many(5, 8));
        calls.put("least(0)", x -> x.least(0));
        calls.put("least(61)", x -> x.least(61));
        calls.put("endless(-1)", x -> x.endless(-1));
        calls.put("endless(1000)", x -> x.endless(1000));
        calls.put("longest()", x -> x.longest());
        calls.put("round(0, 0)", x -> x.round(0, 0));
        calls.put("round(9, 0)", x -> x.round(9, 0));
        calls.put("round(3, -1)", x -> x.round(3, -1));
        calls.put("round(3, 3)", x -> x.round(3, 3));
        calls.put("rounds(0)", x -> x.rounds(0));
        calls.put("rounds(8)", x -> x.rounds(8));
        calls.put("rounds(9)", x -> x.rounds(9));
        calls.put("delays(25, false)", x -> x.delays(25, false));
        calls.put("delays(-25, false)", x -> x.delays(-25, false));
        calls.put("delays(25, true)", x -> x.delays(25, true));
        calls.put("delays(-1, true)", x -> x.delays(-1, true));
        calls.put("choir(-1, 2, 0)", x -> x.choir(-1, 2, 0));
        calls.put("choir(10000, 2, 0)", x -> x.choir(10000, 2, 0));
        calls.put("choir(0, 1, 0)", x -> x.choir(0, 1, 0));
        calls.put("choir(0, 7, 0)", x -> x.choir(0, 7, 0));
        calls.put("choir(0, 2, -1)", x -> x.choir(0, 2, -1));
        calls.put("choir(0, 2, 14)", x -> x.choir(0, 2, 14));
        calls.put("count(-1)", x -> x.count(-1));
        calls.put("count(9)", x -> x.count(9));
        return calls;
    }

    private static void refusedLeaveAll() {
        for (Map.Entry<String, Call> e : refusedWithNone().entrySet()) {
            leaves(e.getKey(), e.getValue(), -1, "31");
        }
        leaves("fix(-1, 0)", x -> yes(x.fix(-1, 0)), 0, "31");
        leaves("fix(60, 0)", x -> yes(x.fix(60, 0)), 0, "31");
        leaves("fix(60, -2)", x -> yes(x.fix(60, -2)), 0, "31");
        leaves("fix(1, 4)", x -> yes(x.fix(1, 4)), 0, "31");
        leaves("fix(1, -3)", x -> yes(x.fix(1, -3)), 0, "31");
        leaves("mark(-1, false)", x -> yes(x.mark(-1, false)), 0, "31");
        leaves("mark(4, false)", x -> yes(x.mark(4, false)), 0, "31");
        leaves("mark(-1, true)", x -> yes(x.mark(-1, true)), 0, "31");
        leaves("mark(4, true)", x -> yes(x.mark(4, true)), 0, "31");
        leaves("mark(1, true)", x -> yes(x.mark(1, true)), 0, "31");
        leaves("note(5)", x -> x.note(5), -2, "31");
        leaves("leastAt(5, 5)", x -> x.leastAt(5, 5), -2, "31");
        leaves("leastAt(61, 0)", x -> x.leastAt(61, 0), -2, "31");
        leaves("mendAt(5)", x -> x.mendAt(5), -2, "31");
        leaves("voice(2, 0)", x -> voice(x, 2, 0), THROWN, "31");
        leaves("voice(0, 2)", x -> voice(x, 0, 2), THROWN, "31");
        leaves("feed of nothing", x -> x.feed(0, -1, 0x0102030405060708L), 2, "31");
    }

    /** Promise 3: "or its FAULT (all stays then)"; promise 4: "or its FAULT (the TUNE stays then)". */
    private static void faultsLeaveAll() {
        String lines = "notes 9;meter 8;echo late 2 down 3 half back 7;law 0;leap 0;pair 0;";
        int size = lines.length();
        String[] wrong = {"%", "notes", "meter 9;", "echo late 1 up 25", "law 1 1"};
        int[] fault = {1 + 16 * size, 3 + 16 * size, 3 + 16 * size, 4 + 16 * (size + 15), 1 + 16 * (size + 6)};
        for (int i = 0; i < wrong.length; i++) {
            String text = lines + wrong[i];
            leaves("cliff '" + text + "'", x -> faultOf(x, text, true), fault[i], "");
        }
        leaves("cliff 'notes 13;'", x -> faultOf(x, "notes 13;", true), 4 + 16 * 6, "");
        leaves("cliff of five laws", x -> faultOf(x, times("law 0;", 5), true), 5 + 16 * 24, "");
        leaves("cliff '31'", x -> x.cliff(), 1, "");
        leaves("draft '31'", x -> x.draft(), 4, "");
        leaves("draft '3 3 %'", x -> faultOf(x, "3 3 %", false), 1 + 16 * 4, "");
        leaves("draft '3 3 4'", x -> faultOf(x, "3 3 4", false), 4 + 16 * 4, "");
        leaves("draft of 201", x -> faultOf(x, "again 99(0 0)0 0 0", false), 5 + 16 * 17, "");
        leaves("draft of 297", x -> faultOf(x, "again 99(0 0 0)", false), 5 + 16 * 14, "");
        leaves("draft not closed", x -> faultOf(x, "up 1(2 2", false), 1 + 16 * 8, "");
    }

    /** Takes the signs that stand on the TAPE, by a reading that is a FAULT, then reads a text. */
    private static int faultOf(EchoTune x, String text, boolean asCliff) {
        due("the first reading", x.draft(), 4);
        return asCliff ? cliff(x, text) : draft(x, text);
    }

    /** A full TUNE refuses one more BEAT and stays: promise 5, "NONE: others, 200 are there". */
    private static void fullLeavesAll() {
        EchoTune x = new EchoTune();
        for (int i = 0; i < 200; i++) {
            due("sing the BEAT " + i, x.sing(i % 8 - 1), 1 + i);
        }
        for (int note = -3; note <= 8; note++) {
            due("sing(" + note + ") of 200", x.sing(note), -1);
        }
        due("count(6)", x.count(6), 200);
        due("note(199)", x.note(199), 199 % 8 - 1);
        due("note(200)", x.note(200), -2);
        due("clear()", x.clear(), true);
        due("room again", x.sing(0), 1);
    }

    // ---------------------------------------------------------------- promise by promise

    /** Promise 1: "Seven notes, meter 4, no echo, no law, an empty TUNE"; nothing is FIXED, marked or told. */
    private static void newObject() {
        EchoTune x = new EchoTune();
        int[] want = {-1, 7, 4, 0, 0, 0, 0, 0, 0, 0, -1};
        for (int i = 0; i < want.length; i++) {
            due("count(" + (i - 1) + ")", x.count(i - 1), want[i]);
        }
        for (int mark = -1; mark <= 4; mark++) {
            due("mark(" + mark + ", true)", x.mark(mark, true), false);
        }
        due("end()", x.end(), -1);
        due("clashes()", x.clashes(), 0);
        clash(x, -1, -1, -1, -1, -1);
        due("note(0)", x.note(0), -2);
        silent(x, 0, 0);
        silent(x, 1, 0);
        due("depth()", x.depth(), 1);
        due("longest()", x.longest(), -1);
        due("mend()", x.mend(), -1);
        due("mendAt(0)", x.mendAt(0), -2);
        due("many(1, 0)", x.many(1, 0), 7);
        due("fix(0, 6)", x.fix(0, 6), true);
        due("fix(0, 7)", x.fix(0, 7), false);
        due("the empty text", new EchoTune().cliff(), 0);
        due("the empty text", new EchoTune().draft(), 0);
        String fresh = picture(new EchoTune());
        EchoTune told = new EchoTune();
        due("the empty CLIFF", told.cliff(), 0);
        due("is the one of a new object", picture(told), fresh);
    }

    /** Promise 2: "the bytes of a, b, c, of each the highest first ... how many there are". */
    private static void feed() {
        String text = "notes 9;meter 3;leap 1; ";
        for (int at = 0; at < 24; at++) {
            due("a sign at " + at, draft(new EchoTune(), times(" ", at) + "%"), 1 + 16 * at);
        }
        EchoTune x = new EchoTune();
        due("feed 24", x.feed(word(text, 0), word(text, 8), word(text, 16)), 24);
        due("cliff()", x.cliff(), 0);
        due("feed of 0", x.feed(0, 0, 0), 0);
        due("feed of all bits", x.feed(-1, -1, -1), 0);
        due("feed a alone", x.feed(word("3", 0), 0, 0), 1);
        due("feed b alone", x.feed(0, word("4", 0), 0), 2);
        due("feed c alone", x.feed(0, 0, word("5", 0)), 3);
        due("draft '345'", x.draft(), 4);
        EchoTune full = new EchoTune();
        for (int i = 1; i <= 512; i++) {
            due("feed 2", full.feed(0x2020L, 0, 0), Math.min(1000, 2 * i));
        }
    }

    /** Promise 5: "A note (NONE: a rest) comes behind the TUNE"; promise 6: "-2: no such BEAT". */
    private static void singAndNote() {
        for (int notes = 2; notes <= 12; notes++) {
            EchoTune x = on("notes " + notes + ";");
            due("sing(the last)", x.sing(notes - 1), 1);
            due("sing(one more)", x.sing(notes), -1);
            due("sing(NONE)", x.sing(-1), 2);
            due("sing(-2)", x.sing(-2), -1);
            due("sing(0)", x.sing(0), 3);
            int[] want = {-2, -2, notes - 1, -1, 0, -2, -2};
            for (int i = 0; i < want.length; i++) {
                due("note(" + (i - 2) + ")", x.note(i - 2), want[i]);
            }
        }
        EchoTune x = on("", "again 2(again 99(rest)3)");
        for (int far : FAR) {
            due("sing(" + far + ")", x.sing(far), -1);
            due("note(" + far + ")", x.note(far), -2);
        }
        due("note(199)", x.note(199), 3);
        due("note(200)", x.note(200), -2);
        due("note(198)", x.note(198), -1);
    }

    /** Promise 7: "NoSuchElementException: no such VOICE, it does not sound". */
    private static void voices() {
        for (int echoes = 0; echoes <= 8; echoes++) {
            EchoTune x = on(times("echo late 1 up 3;", echoes), "0 rest 2");
            for (int v = 0; v <= echoes; v++) {
                sounds(x, v, v == 0 ? 2 : 3, v == 0 ? 2 : 5);
                sounds(x, v, v == 0 ? 0 : 1, v == 0 ? 0 : 3);
                silent(x, v, v == 0 ? 1 : 2);
                silent(x, v, v == 0 ? 3 : 4);
                silent(x, v, -1);
                for (int far : FAR) {
                    silent(x, v, far);
                }
            }
            for (int t = -1; t < 5; t++) {
                silent(x, -1, t);
                silent(x, echoes + 1, t);
                silent(x, 9, t);
            }
            for (int far : FAR) {
                silent(x, far, 0);
                silent(x, far, far);
            }
        }
        silent(new EchoTune(), 0, 0);
        EchoTune paced = on("echo late 1 up 0 twice;echo late 1 up 0 half;echo late 64 up 0 half back 1;", "0");
        for (int v = 0; v <= 3; v++) {
            for (int far : FAR) {
                silent(paced, v, far);
            }
            // Doubled or halved these come back to small numbers.
            silent(paced, v, 1 + (1 << 30));
            silent(paced, v, 1 + (1 << 31));
            silent(paced, v, 64 + (1 << 31));
            silent(paced, v, 64 + (1 << 30));
        }
    }

    /** Promise 8: "The last BEAT in which something sounds; NONE: none"; promise 10: "In how many BEATS". */
    private static void endAndClashes() {
        String[] cliffs = {"", "echo late 64 up 0;", "echo late 64 up 0 twice;", "echo late 1 up 0 back 1;law 0;leap 0;pair 0;"};
        String[] none = {"", "rest", "again 2(again 99(rest)rest)"};
        for (String cliff : cliffs) {
            for (String draft : none) {
                EchoTune x = on(cliff, draft);
                due("end() of nothing", x.end(), -1);
                due("clashes() of nothing", x.clashes(), 0);
                clash(x, -1, -1, -1, -1, -1);
            }
        }
        EchoTune x = on("echo late 9 up 0;");
        for (int i = 0; i < 200; i++) {
            x.sing(i % 50 == 0 ? 0 : -1);
        }
        due("the last echo", x.end(), 159);
        due("the singer behind the echoes", on("echo late 64 up 0 half;", "again 70(0)rest").end(), 98);
        due("the singer behind the echoes", on("echo late 1 up 0 back 1;", "again 70(0)rest").end(), 69);
        due("BEAT 0", on("echo late 3 up 0 half back 1;", "0").end(), 3);
        due("BEAT 0 alone", on("", "0 rest rest").end(), 0);
        due("all BEATS that can be", on("leap 0;", "again 2(again 99(0)0)").clashes(), 199);
        due("all BEATS that can be", on("echo late 1 up 0;law 0;", "again 2(again 99(0)0)").clashes(), 199);
        due("all BEATS that can be", on("echo late 1 up 0;pair 0;", "again 2(again 99(0)0)").clashes(), 198);
        due("a BEAT counts once", on(times("echo late 1 up 0;", 8) + times("law 0;", 4), "0").clashes(), 1);
    }

    /** Promise 9: "NONE: another what, there is none"; promise 26: "NONE for another what". */
    private static void whats() {
        EchoTune x = on("echo late 1 up 0;law 1;law 0;", "0 0");
        clash(x, 1, 0, 1, 1, 1);
        for (int what : new int[] {-2, -1, 5, 6, 7, 8, 9, 16}) {
            due("clash(" + what + ")", x.clash(what), -1);
        }
        for (int what : new int[] {-2, -1, 9, 10, 16}) {
            due("count(" + what + ")", x.count(what), -1);
        }
        for (int far : FAR) {
            due("clash(" + far + ")", x.clash(far), -1);
            due("count(" + far + ")", x.count(far), -1);
            due("choir(1, 2, " + far + ")", x.choir(1, 2, far), -1);
        }
    }

    /** Promise 11: "A BEAT is FIXED: a note, NONE a rest, -2 no more: true; false: others". */
    private static void fix() {
        for (int notes = 2; notes <= 12; notes++) {
            EchoTune x = on("notes " + notes + ";");
            for (int beat : new int[] {-2, -1, 0, 1, 58, 59, 60, 61}) {
                for (int note = -4; note <= notes + 1; note++) {
                    boolean fits = beat >= 0 && beat <= 59 && note >= -2 && note < notes;
                    due("fix(" + beat + ", " + note + ")", x.fix(beat, note), fits);
                }
            }
            due("count(7)", x.count(7), 4);
            for (int beat : new int[] {0, 1, 58, 59}) {
                due("no more", x.fix(beat, -2), true);
            }
            due("count(7)", x.count(7), 0);
        }
        EchoTune x = on("notes 2;", "0 1");
        due("no more, though it was not", x.fix(5, -2), true);
        due("count(7)", x.count(7), 0);
        for (int far : FAR) {
            due("fix(" + far + ", 0)", x.fix(far, 0), false);
            due("fix(0, " + far + ")", x.fix(0, far), false);
            due("fix(" + far + ", -2)", x.fix(far, -2), false);
        }
        x.fix(0, 1);
        x.fix(0, 1);
        due("FIXED twice is one", x.count(7), 1);
        due("the TUNE is not changed", x.note(0), 0);
        due("many(1, 0)", x.many(1, 0), 1);
        x.fix(0, -2);
        due("many(1, 0)", x.many(1, 0), 2);
    }

    /** Promises 13 to 17: "NONE: others" and "-2: no such BEAT, likewise". */
    private static void tables() {
        EchoTune x = on("notes 2;leap 0<move or move<0;");
        for (int n : new int[] {-1, 0, 1, 2, 59, 60, 61, 62}) {
            boolean fits = n >= 1 && n <= 60;
            for (int part = -2; part <= 9; part++) {
                long two = part == 0 ? 2 : 0;
                due("many(" + n + ", " + part + ")", x.many(n, part), fits && part >= 0 && part <= 7 ? two : -1);
            }
            due("least(" + n + ")", x.least(n), fits ? n - 1 : -1);
            for (int beat : new int[] {-2, -1, 0, n - 1, n, n + 1, 60}) {
                boolean in = fits && beat >= 0 && beat < n;
                due("leastAt(" + n + ", " + beat + ")", x.leastAt(n, beat), in ? beat % 2 : -2);
            }
        }
        for (int i : new int[] {-2, -1, 0, 1, 998, 999, 1000, 1001}) {
            due("endless(" + i + ")", x.endless(i), i >= 0 && i <= 999 ? i % 2 : -1);
        }
        for (int far : FAR) {
            due("many(" + far + ", 0)", x.many(far, 0), -1);
            due("many(1, " + far + ")", x.many(1, far), -1);
            due("least(" + far + ")", x.least(far), -1);
            due("leastAt(" + far + ", 0)", x.leastAt(far, 0), -2);
            due("leastAt(60, " + far + ")", x.leastAt(60, far), -2);
            due("leastAt(far, far)", x.leastAt(far, far - 1), -2);
            due("endless(" + far + ")", x.endless(far), -1);
        }
        EchoTune none = on("notes 2;leap 0;");
        due("many: 0 is no NONE", none.many(2, 0), 0);
        due("least: there is none", none.least(2), -1);
        due("leastAt: there is none", none.leastAt(2, 0), -2);
        due("leastAt: there is one", none.leastAt(1, 0), 0);
        due("endless: there is none", none.endless(0), -1);
        due("longest()", none.longest(), 1);
        none.fix(1, -1);
        due("least with a rest", none.least(3), 0);
        due("leastAt a rest", none.leastAt(3, 1), -1);
        due("leastAt behind it", none.leastAt(3, 2), 0);
        due("still no endless one", none.endless(0), -1);
    }

    /** Promises 18, 19: "NONE: others, there is none", "How many ROUNDS ... there are; NONE: others". */
    private static void rounds() {
        EchoTune none = on("notes 2;leap 0;");
        for (int k = 1; k <= 8; k++) {
            due("rounds(" + k + ")", none.rounds(k), 0);
            due("round(" + k + ", 0)", none.round(k, 0), -1);
        }
        EchoTune x = on("notes 2;leap move;");
        for (int k = -1; k <= 10; k++) {
            int want = k < 1 || k > 8 ? -1 : k % 2 == 0 ? 2 : 0;
            due("rounds(" + k + ")", x.rounds(k), want);
            for (int i = -2; i <= 9; i++) {
                due("round(" + k + ", " + i + ")", x.round(k, i), want == 2 && i >= 0 && i < k ? i % 2 : -1);
            }
        }
        for (int far : FAR) {
            due("rounds(" + far + ")", x.rounds(far), -1);
            due("round(" + far + ", 0)", x.round(far, 0), -1);
            due("round(2, " + far + ")", x.round(2, far), -1);
            due("round(far, far)", x.round(far, far - 1), -1);
        }
        for (String gone : new String[] {"twice", "half", "back 1", "back 200", "half back 3"}) {
            EchoTune echo = on("echo late 1 up 0;echo late 1 up 0 " + gone + ";");
            for (int k = 1; k <= 5; k++) {
                due(gone + " rounds(" + k + ")", echo.rounds(k), -1);
                due(gone + " round(" + k + ", 0)", echo.round(k, 0), -1);
            }
        }
    }

    /** Promise 21: "NONE: a rest; -2: no such BEAT, likewise"; promise 20 is as MEND has it. */
    private static void mend() {
        EchoTune x = on("notes 2;leap move;", "0 0 rest 1 1");
        due("mend()", x.mend(), 2);
        int[] want = {-2, -2, 0, 1, -1, 0, 1, -2, -2};
        for (int i = 0; i < want.length; i++) {
            due("mendAt(" + (i - 2) + ")", x.mendAt(i - 2), want[i]);
        }
        for (int far : FAR) {
            due("mendAt(" + far + ")", x.mendAt(far), -2);
        }
        x.sing(1);
        due("one BEAT more", x.mend(), 2);
        due("mendAt(5)", x.mendAt(5), 1);
        due("mendAt(3)", x.mendAt(3), 1);
        x.clear();
        due("an empty TUNE", x.mend(), -1);
        due("an empty TUNE", x.mendAt(0), -2);
        due("61 BEATS", draft(x, "again 61(rest)"), 0);
        due("61 BEATS", x.mend(), -1);
        for (int beat = 0; beat <= 61; beat++) {
            due("mendAt(" + beat + ") of 61", x.mendAt(beat), -2);
        }
        due("60 BEATS", draft(x, "again 60(rest)"), 0);
        due("60 BEATS", x.mend(), 0);
        due("mendAt(59)", x.mendAt(59), -1);
        due("mendAt(60)", x.mendAt(60), -2);
    }

    /** Promise 22: "up so much (-24 to 24), or turned about a note (0 to 24); NONE: others". */
    private static void delays() {
        EchoTune x = on("notes 2;law not(apart=24);", "0 0");
        for (int n : new int[] {-26, -25, -24, -23, -1, 0, 1, 12, 23, 24, 25, 26}) {
            due("delays(" + n + ", false)", x.delays(n, false), Math.abs(n) > 24 ? -1 : Math.abs(n) == 24 ? -4 : -2);
            due("delays(" + n + ", true)", x.delays(n, true), n < 0 || n > 24 ? -1 : n == 12 ? -4 : -2);
        }
        for (int far : FAR) {
            due("delays(" + far + ", false)", x.delays(far, false), -1);
            due("delays(" + far + ", true)", x.delays(far, true), -1);
        }
        // No answer that is taken is NONE: bit 0 is never set.
        due("all of them", on("").delays(0, false), -2);
        due("none of them", on("leap 0;", "0 0").delays(0, false), 0);
    }

    /** Promise 23: "what 0: how many BEATS, 1: the first (NONE: none), 2 + s ..., 8 + s ...; NONE: others". */
    private static void choir() {
        EchoTune x = on("law 0;", "again 40(0)");
        for (int singers = 0; singers <= 8; singers++) {
            for (int what = -3; what <= 18; what++) {
                boolean fits = singers >= 2 && singers <= 6
                    && (what == 0 || what == 1 || what >= 2 && what < 2 + singers || what >= 8 && what < 8 + singers);
                due("choir(77, " + singers + ", " + what + ") is taken", x.choir(77, singers, what) != -1, fits);
            }
        }
        for (int seed : new int[] {-2, -1, 0, 1, 9998, 9999, 10000, 10001}) {
            due("choir(" + seed + ", 2, 8) is taken", x.choir(seed, 2, 8) != -1, seed >= 0 && seed <= 9999);
        }
        for (int far : FAR) {
            due("choir(" + far + ", 2, 0)", x.choir(far, 2, 0), -1);
            due("choir(0, " + far + ", 0)", x.choir(0, far, 0), -1);
            due("choir(0, 2, " + far + ")", x.choir(0, 2, far), -1);
        }
        EchoTune none = on("law 1;pair 1;leap 0;", "again 40(0)");
        due("no BEAT is against it", none.choir(77, 6, 0), 0);
        due("the first: none", none.choir(77, 6, 1), -1);
    }

    /** Promise 24: "The TUNE is empty, nothing is FIXED: true"; the CLIFF, the TAPE and the MARKS stay. */
    private static void clear() {
        EchoTune x = rich();
        due("clear()", x.clear(), true);
        int[] want = {4, 3, 1, 1, 1, 1, 0, 0, 2};
        for (int i = 0; i < want.length; i++) {
            due("count(" + i + ")", x.count(i), want[i]);
        }
        due("note(0)", x.note(0), -2);
        due("end()", x.end(), -1);
        due("clashes()", x.clashes(), 0);
        due("mend()", x.mend(), -1);
        EchoTune same = on("notes 4;meter 3;echo late 1 up 1;law not(apart=2);leap not(move=3);pair not(move=other and strong);");
        due("as if just told", picture(x), picture(same));
        due("clear() of the empty", x.clear(), true);
        due("clear() of a new object", new EchoTune().clear(), true);
        due("the MARK stays", x.mark(2, true), true);
        due("count(6)", x.count(6), 3);
        due("the TAPE stays", x.draft(), 4);
    }

    /** Promise 25: "A MARK is laid (back: gone back to): true; false: none such, nothing is on it (back)". */
    private static void mark() {
        EchoTune x = new EchoTune();
        for (int mark : new int[] {-2, -1, 4, 5, LEAST, GREATEST}) {
            due("mark(" + mark + ", false)", x.mark(mark, false), false);
            due("mark(" + mark + ", true)", x.mark(mark, true), false);
        }
        for (int mark = 0; mark < 4; mark++) {
            for (int other = 0; other < 4; other++) {
                due("mark(" + other + ", true)", x.mark(other, true), other < mark);
            }
            due("mark(" + mark + ", false)", x.mark(mark, false), true);
            due("laid anew", x.mark(mark, false), true);
        }
        EchoTune rich = rich();
        String before = picture(rich);
        due("laid", rich.mark(0, false), true);
        due("laying changes nothing", picture(rich), before);
        due("gone back to at once", rich.mark(0, true), true);
        due("nothing has changed", picture(rich), before);
        due("the TAPE is not held", rich.count(8), 2);
        due("cliff", rich.cliff(), 1);
        due("cliff", cliff(rich, "notes 12;meter 8;echo late 64 turn 3 half back 9;pair 0;"), 0);
        due("gone back to", rich.mark(0, true), true);
        due("all is as it was", picture(rich), before);
        rich.clear();
        due("gone back to", rich.mark(0, true), true);
        due("all is as it was", picture(rich), before);
        rich.sing(3);
        rich.fix(2, 2);
        due("laid over", rich.mark(0, false), true);
        String later = picture(rich);
        due("MARK 2", rich.mark(2, true), true);
        due("gone back to", rich.mark(0, true), true);
        due("as it was laid last", picture(rich), later);
    }

    /** "An object is used for at most 512 calls after it has been made". */
    private static void lastCall() {
        EchoTune x = new EchoTune();
        for (int i = 0; i < 200; i++) {
            x.sing(i % 7);
        }
        for (int i = 0; i < 250; i++) {
            x.fix(i % 60, i % 7);
        }
        for (int i = 0; i < 60; i++) {
            x.mark(i % 4, i % 8 > 3);
        }
        due("the 511th call", x.count(7), 60);
        due("the 512th call", x.many(60, 0), 1);
        EchoTune cliffs = new EchoTune();
        for (int i = 0; i < 256; i++) {
            int notes = 2 + i % 8;
            cliffs.feed(word("notes   ", 0), word(notes + ";law 1;", 0), word("leap 1;", 0));
            due("cliff " + i, cliffs.cliff(), 0);
        }
    }

    public static void main(String[] args) {
        Map<String, Runnable> all = new LinkedHashMap<>();
        all.put("refused calls", PromiseBoundsTest::refusedLeaveAll);
        all.put("FAULTS", PromiseBoundsTest::faultsLeaveAll);
        all.put("a full TUNE", PromiseBoundsTest::fullLeavesAll);
        all.put("promise 1", PromiseBoundsTest::newObject);
        all.put("promise 2", PromiseBoundsTest::feed);
        all.put("promises 5, 6", PromiseBoundsTest::singAndNote);
        all.put("promise 7", PromiseBoundsTest::voices);
        all.put("promises 8, 10", PromiseBoundsTest::endAndClashes);
        all.put("promises 9, 26", PromiseBoundsTest::whats);
        all.put("promise 11", PromiseBoundsTest::fix);
        all.put("promises 13 to 17", PromiseBoundsTest::tables);
        all.put("promises 18, 19", PromiseBoundsTest::rounds);
        all.put("promises 20, 21", PromiseBoundsTest::mend);
        all.put("promise 22", PromiseBoundsTest::delays);
        all.put("promise 23", PromiseBoundsTest::choir);
        all.put("promise 24", PromiseBoundsTest::clear);
        all.put("promise 25", PromiseBoundsTest::mark);
        all.put("512 calls", PromiseBoundsTest::lastCall);
        for (Map.Entry<String, Runnable> e : all.entrySet()) {
            begin(e.getKey());
            e.getValue().run();
        }
        finish();
    }
}
