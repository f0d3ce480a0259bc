import java.util.ArrayList;
import java.util.HashSet;
import java.util.List;
import java.util.Set;

/**
 * Long tunes counted by hand, so that each fact of the law is told rightly however often it was asked
 * for, and states that change between questions: what was asked earlier must not show in an answer.
 */
public final class FactsTest extends Checks {
    private static final int BEATS = 200;
    private static final int SILENT = 1 << 20;
    private static final String ECHOES = "echo late 1 turn 5;echo late 3 up 2;echo late 4 down 7 half;";
    // One weight for each of strong, apart, was, move, other: no two rows of facts have the same sum.
    private static final int[] WEIGHTS = {1, 2, 99 * 2, 99 * 99, 99 * 99 * 31};
    private static final String SUM = "strong+apart*2+was*99*2+move*99*99+other*99*99*31";

    // ---------------------------------------------------------------- long tunes by hand

    /** A row of notes without end that leaps to and fro and rests now and then. */
    private static int noteAt(int beat, int notes) {
        if (beat < 0 || beat >= BEATS) {
            return SILENT;
        }
        int n = beat * beat * 7 + beat * 5 + beat / 3;
        return n % 11 == 4 ? SILENT : n % notes;
    }

    private static void singAll(EchoTune x, int notes) {
        for (int t = 0; t < BEATS; t++) {
            int note = noteAt(t, notes);
            x.sing(note == SILENT ? -1 : note);
        }
    }

    private static int echoed(int note, int sign, int offset) {
        return note == SILENT ? SILENT : sign * note + offset;
    }

    /** What the singer and the ECHOES sound in a BEAT. */
    private static int[] voices(int t, int notes) {
        return new int[] {noteAt(t, notes), t < 1 ? SILENT : echoed(noteAt(t - 1, notes), -1, 10),
            t < 3 ? SILENT : echoed(noteAt(t - 3, notes), 1, 2), t < 4 ? SILENT : echoed(noteAt(2 * (t - 4), notes), 1, -7)};
    }

    /** The sum of the facts of two VOICES, as SUM has it; SILENT if they have none. */
    private static int pairSum(int[] now, int[] before, int a, int b, int strong) {
        if (now[a] == SILENT || now[b] == SILENT || before[a] == SILENT || before[b] == SILENT) {
            return SILENT;
        }
        return strong * WEIGHTS[0] + Math.abs(now[a] - now[b]) * WEIGHTS[1] + Math.abs(before[a] - before[b]) * WEIGHTS[2]
            + (now[a] - before[a]) * WEIGHTS[3] + (now[b] - before[b]) * WEIGHTS[4];
    }

    private static String number(int n) {
        return n < 0 ? "0-" + -n / 1000 + "*1000-" + -n % 1000 : n / 1000 + "*1000+" + n % 1000;
    }

    /** In each BEAT the sums of all VOICES that have facts there, in the order of the VOICES. */
    private static List<List<int[]>> sumsByBeat(int notes, int meter) {
        List<List<int[]>> all = new ArrayList<>();
        for (int t = 0; t < BEATS + 9; t++) {
            int[] now = voices(t, notes);
            int[] before = voices(t - 1, notes);
            List<int[]> sums = new ArrayList<>();
            for (int a = 0; a < 4; a++) {
                for (int b = a + 1; b < 4; b++) {
                    int sum = pairSum(now, before, a, b, t % meter == 0 ? 1 : 0);
                    if (sum != SILENT) {
                        sums.add(new int[] {sum, a, b});
                    }
                }
            }
            all.add(sums);
        }
        return all;
    }

    /** "pair: apart; was: apart there; move, other: how much higher a, b is than there", strong. */
    private static void pairs(int notes, int meter) {
        List<List<int[]>> all = sumsByBeat(notes, meter);
        Set<Integer> told = new HashSet<>();
        for (List<int[]> sums : all) {
            for (int[] sum : sums) {
                if (told.size() < 150 && told.add(sum[0])) {
                    EchoTune x = on("notes " + notes + ";meter " + meter + ";" + ECHOES + "pair not(" + SUM + "=" + number(sum[0]) + ");");
                    singAll(x, notes);
                    pairsOf(x, all, sum[0]);
                }
            }
        }
    }

    private static void pairsOf(EchoTune x, List<List<int[]>> all, int broken) {
        int many = 0;
        int[] first = {-1, -1, -1, -1, -1};
        for (int t = 0; t < all.size(); t++) {
            boolean found = false;
            for (int[] sum : all.get(t)) {
                if (sum[0] == broken && !found) {
                    found = true;
                    first = many == 0 ? new int[] {t, sum[1], sum[2], 2, 0} : first;
                }
            }
            many += found ? 1 : 0;
        }
        due("clashes() of " + broken, x.clashes(), many);
        clash(x, first);
    }

    /** "law: apart is how far they are apart"; "leap: move is how much higher it is"; both with strong. */
    private static void lawsAndLeaps(int notes, int meter) {
        for (int strong = 0; strong <= 1; strong++) {
            for (int apart = 0; apart <= 30; apart++) {
                EchoTune x = on("notes " + notes + ";meter " + meter + ";" + ECHOES + "law not(apart=" + apart + " and strong=" + strong + ");");
                singAll(x, notes);
                due("BEATS apart by " + apart, x.clashes(), beatsApart(notes, meter, apart, strong));
            }
            for (int move = 1 - notes; move < notes; move++) {
                EchoTune x = on("notes " + notes + ";meter " + meter + ";" + ECHOES + "leap not(move=" + number(move) + " and strong=" + strong + ");");
                singAll(x, notes);
                int many = 0;
                for (int t = 1; t < BEATS; t++) {
                    int now = noteAt(t, notes);
                    int before = noteAt(t - 1, notes);
                    boolean asked = (t % meter == 0) == (strong == 1) && now != SILENT && before != SILENT;
                    many += asked && now - before == move ? 1 : 0;
                }
                due("BEATS higher by " + move, x.clashes(), many);
            }
        }
    }

    private static int beatsApart(int notes, int meter, int apart, int strong) {
        int many = 0;
        for (int t = 0; t < BEATS + 9; t++) {
            int[] now = voices(t, notes);
            boolean found = false;
            for (int a = 0; a < 4; a++) {
                for (int b = a + 1; b < 4; b++) {
                    found |= now[a] != SILENT && now[b] != SILENT && Math.abs(now[a] - now[b]) == apart;
                }
            }
            many += found && (t % meter == 0) == (strong == 1) ? 1 : 0;
        }
        return many;
    }

    /** "then the first line": all eight lines are told at once, and just one is ever broken. */
    private static void allLines() {
        String[] kinds = {"leap", "law", "pair"};
        int[] most = {2, 4, 2};
        for (int kind = 0; kind < 3; kind++) {
            for (int line = 0; line < most[kind]; line++) {
                StringBuilder text = new StringBuilder("echo late 1 up 0;");
                for (int k = 2; k >= 0; k--) {
                    for (int i = 0; i < most[k]; i++) {
                        text.append(kinds[k]).append(k == kind && i == line ? " 0" : " 1").append(';');
                    }
                }
                EchoTune x = on(text.toString(), "0 0 0");
                clash(x, kind == 2 ? 2 : 1, 0, kind == 0 ? 0 : 1, kind, line);
                due("TABLES of " + text, x.many(1, 0), 7);
                due("TABLES of " + text, x.many(3, 0), 0);
                due("TABLES of " + text, x.longest(), kind == 2 ? 2 : 1);
                due("ROUNDS of " + text, x.rounds(1), 0);
            }
        }
    }

    /** "Without a FAULT it is the CLIFF from then on": nothing is left of a longer one that was told before. */
    private static void shorterLines() {
        String[] longer = {"leap not 1", "leap 1 and 0", "leap 2-2", "leap 7*0", "leap 1<0", "leap 3=4", "leap not not not 3"};
        for (String line : longer) {
            EchoTune x = on(line + ";" + line + ";", "0 0");
            due("cliff 'leap 1;'", cliff(x, "leap 1;"), 0);
            draft(x, "0 0");
            due("'leap 1;' behind '" + line + "'", x.clashes(), 0);
            due("cliff 'leap 1;leap 0;'", cliff(x, "leap 1;leap 0;"), 0);
            draft(x, "0 0");
            clash(x, 1, 0, 0, 0, 1);
        }
    }

    /** "echo, 8 at most": all of them count in TABLES, in ROUNDS and in the TUNE. */
    private static void eightEchoes() {
        String seven = times("echo late 1 up 0;", 7);
        for (int at = 0; at <= 7; at++) {
            String eight = times("echo late 1 up 0;", at) + "echo late 2 up 1;" + times("echo late 1 up 0;", 7 - at);
            EchoTune x = on("notes 2;" + eight + "law not(apart=2);", "0 0 1");
            due("clashes() with the last echo", x.clashes(), 0);
            // Behind a 1, which comes back as 2, no 0 may come: 000, 001, 011, 111.
            due("many(3, 0)", x.many(3, 0), 4);
            due("rounds(2)", x.rounds(2), 2);
            x = on("notes 3;" + eight + "law not(apart=2);", "2 0 0");
            // The echo of 2 sounds 3 in BEAT 2, where the singer is at 0; that of 0 sounds 1 in BEAT 3.
            due("many(1, 0)", x.many(1, 0), 3);
            due("clashes()", x.clashes(), 1);
            clash(x, 1, 0, at == 0 ? 2 : 1, 1, 0);
            x = on("notes 2;" + eight + "pair 0;");
            due("TABLES with a pair", x.many(1, 0), 2);
            due("TABLES with a pair", x.many(2, 0), 0);
            due("TABLES with a pair", x.longest(), 2);
        }
        EchoTune x = on("notes 2;" + seven + "law 0;", "0 0");
        clash(x, 1, 0, 1, 1, 0);
    }

    // ---------------------------------------------------------------- TABLES and ROUNDS by hand

    /** TABLES tell the same as the TUNES one by one, of several echoes with a pair and a strong BEAT behind the end. */
    private static void tablesByHand() {
        String[] cliffs = {
            "notes 2;meter 3;echo late 1 up 1;echo late 2 turn 1;pair not(move=other) or apart=1;",
            "notes 2;meter 2;echo late 3 up 0;echo late 1 up 2;pair move or other or strong;leap 1;leap move or strong;",
            "notes 2;meter 5;echo late 2 up 1;echo late 3 down 1;law not(apart=3) or not strong;law not(apart=1) or strong;",
            "notes 3;meter 4;echo late 1 turn 1;echo late 2 up 1;pair was+apart;law apart<4;leap move<2;leap 0-2<move;"};
        for (String cliff : cliffs) {
            int notes = cliff.charAt(6) - '0';
            for (int n = 1; n <= 7; n++) {
                byHand(cliff, notes, n);
            }
        }
    }

    private static void byHand(String cliff, int notes, int n) {
        int rows = 1;
        for (int i = 0; i < n; i++) {
            rows *= notes;
        }
        EchoTune x = on(cliff);
        int many = 0;
        int least = -1;
        int first = -1;
        for (int row = 0; row < rows; row++) {
            x.clear();
            int motion = 0;
            int last = -1;
            for (int i = 0, top = rows / notes; i < n; i++, top /= notes) {
                int note = row / top % notes;
                x.sing(note);
                motion += last < 0 ? 0 : Math.abs(note - last);
                last = note;
            }
            if (x.clash(0) < 0) {
                many++;
                first = least < 0 || motion < least ? row : first;
                least = least < 0 || motion < least ? motion : least;
            }
            if (row % 40 == 39) {
                x = on(cliff);
            }
        }
        x = on(cliff);
        due("many(" + n + ", 0) of " + cliff, x.many(n, 0), many);
        due("least(" + n + ") of " + cliff, x.least(n), least);
        for (int i = n - 1, left = first; i >= 0; i--, left /= notes) {
            due("leastAt(" + n + ", " + i + ") of " + cliff, x.leastAt(n, i), first < 0 ? -2 : left % notes);
        }
    }

    /** A ROUND sung often enough is a TUNE that keeps the law in its midst, whatever the VOICES do. */
    private static void roundsByHand() {
        String[] cliffs = {
            "notes 2;meter 3;echo late 1 up 1;echo late 2 turn 1;pair not(move=other) or apart=1;",
            "notes 3;meter 4;echo late 2 up 1;echo late 5 turn 2;pair was+apart or move=other;law apart<4;leap move<2;",
            "notes 3;meter 5;echo late 3 up 0;pair not(move=other) or strong;leap move or strong;"};
        for (String cliff : cliffs) {
            int notes = cliff.charAt(6) - '0';
            for (int k = 1; k <= 5; k++) {
                int rows = (int) Math.pow(notes, k);
                int many = 0;
                int first = -1;
                for (int row = 0; row < rows; row++) {
                    if (keepsAllRound(cliff, notes, k, row)) {
                        first = many == 0 ? row : first;
                        many++;
                    }
                }
                EchoTune x = on(cliff);
                due("rounds(" + k + ") of " + cliff, x.rounds(k), many);
                for (int i = k - 1, left = first; i >= 0; i--, left /= notes) {
                    due("round(" + k + ", " + i + ") of " + cliff, x.round(k, i), first < 0 ? -1 : left % notes);
                }
            }
        }
    }

    /** The BEATS behind the first 12, until the row and the meter have gone together once, are asked for. */
    private static boolean keepsAllRound(String cliff, int notes, int k, int row) {
        EchoTune x = on(cliff);
        // The meters above divide 60, so do the lengths: BEAT 60 is as BEAT 0 of a row from ever on.
        for (int t = 0; t < 120; t++) {
            int digit = row;
            for (int i = k - 1; i > t % k; i--) {
                digit /= notes;
            }
            x.sing(digit % notes);
        }
        int all = x.clashes();
        EchoTune head = on(cliff);
        for (int t = 0; t < 60; t++) {
            head.sing(x.note(t));
        }
        // What the 60 BEATS more bring is what a whole round trip brings: ends and heads are the same in both.
        return all == head.clashes();
    }

    // ---------------------------------------------------------------- the CHOIR by hand

    /** "BEATS in which two of them are against a law or pair", each as much higher as is drawn. */
    private static void choirs() {
        for (int seed = 0; seed <= 9990; seed += 333) {
            for (int singers = 2; singers <= 6; singers += 2) {
                choir(seed, singers, "law not(apart=2);", 0);
                choir(seed, singers, "pair not(apart=was and move=other and not(move=0));", 1);
                choir(seed, singers, "law strong or apart<5;", 2);
            }
        }
    }

    private static void choir(int seed, int singers, String law, int which) {
        EchoTune x = on("notes 9;meter 3;echo late 1 up 2;leap 0;" + law);
        singAll(x, 9);
        int[] start = new int[singers];
        int[] up = new int[singers];
        for (int s = 0; s < singers; s++) {
            start[s] = x.choir(seed, singers, 2 + s);
            up[s] = x.choir(seed, singers, 8 + s);
        }
        int many = 0;
        int first = -1;
        for (int t = 0; t < BEATS + 16; t++) {
            boolean found = false;
            for (int a = 0; a < singers; a++) {
                for (int b = a + 1; b < singers; b++) {
                    found |= clashTogether(t, new int[] {start[a], up[a], start[b], up[b]}, which);
                }
            }
            first = found && many == 0 ? t : first;
            many += found ? 1 : 0;
        }
        due("choir(" + seed + ", " + singers + ", 0) of " + law, x.choir(seed, singers, 0), many);
        due("choir(" + seed + ", " + singers + ", 1) of " + law, x.choir(seed, singers, 1), first);
    }

    private static boolean clashTogether(int t, int[] two, int which) {
        int a = echoed(noteAt(t - two[0], 9), 1, two[1]);
        int b = echoed(noteAt(t - two[2], 9), 1, two[3]);
        int aBefore = echoed(noteAt(t - 1 - two[0], 9), 1, two[1]);
        int bBefore = echoed(noteAt(t - 1 - two[2], 9), 1, two[3]);
        if (a == SILENT || b == SILENT) {
            return false;
        }
        int apart = Math.abs(a - b);
        if (which != 1) {
            return which == 0 ? apart == 2 : t % 3 != 0 && apart >= 5;
        }
        boolean both = aBefore != SILENT && bBefore != SILENT;
        return both && apart == Math.abs(aBefore - bBefore) && a - aBefore == b - bBefore && a != aBefore;
    }

    // ---------------------------------------------------------------- what was asked must not show

    interface Change {
        void on(EchoTune x);
    }

    /** A row of changes that leads from large CLIFFS to small ones and back, with all that a state has. */
    private static List<Change> changes() {
        List<Change> all = new ArrayList<>();
        all.add(x -> { });
        all.add(x -> draft(x, "0 2 4 4"));
        all.add(x -> draft(x, "6 0"));
        all.add(x -> x.sing(3));
        all.add(x -> x.fix(1, 5));
        all.add(x -> x.fix(1, -1));
        all.add(x -> x.fix(1, -2));
        all.add(x -> cliff(x, "notes 3;meter 2;echo late 1 up 0;law not(apart=1);leap move or strong;pair not(move=other);"));
        all.add(x -> draft(x, "0 1 2 2 1"));
        all.add(x -> x.mark(1, false));
        all.add(x -> x.fix(0, 2));
        all.add(x -> x.mark(3, false));
        all.add(x -> x.clear());
        all.add(x -> x.mark(1, true));
        all.add(x -> cliff(x, "notes 3;meter 2;echo late 1 up 0;law not(apart=2);leap move=0 or strong;pair move=other;"));
        all.add(x -> draft(x, "0 1 2 2 1"));
        all.add(x -> cliff(x, "notes 3;meter 2;echo late 1 up 0;pair 1;pair not(move=0);"));
        all.add(x -> draft(x, "0 1 2 2 1"));
        all.add(x -> cliff(x, "notes 3;meter 2;echo late 1 up 0;pair not(move=1);"));
        all.add(x -> draft(x, "0 1 2 2 1"));
        all.add(x -> cliff(x, "notes 3;meter 2;echo late 1 up 0;law apart;"));
        all.add(x -> x.sing(2));
        all.add(x -> x.mark(3, true));
        all.add(x -> cliff(x, "notes 2;echo late 7 turn 3;echo late 64 up 1;echo late 5 up 0;echo late 2 up 2;"));
        all.add(x -> cliff(x, "notes 2;echo late 1 up 1;law not(apart=2);"));
        all.add(x -> draft(x, "1 0 1"));
        all.add(x -> cliff(x, "notes 12;meter 7;echo late 2 up 1;pair not(move=other);leap move<3;"));
        all.add(x -> draft(x, "11 3 4 5"));
        all.add(x -> cliff(x, "notes 12;meter 7;echo late 2 up 1 half;pair not(move=other);leap move<3;"));
        all.add(x -> x.mark(0, false));
        all.add(x -> cliff(x, "leap 0<move;"));
        all.add(x -> x.mark(0, true));
        all.add(x -> x.mark(1, true));
        all.add(x -> cliff(x, ""));
        return all;
    }

    /** Answers of all that is asked of a state. */
    private static String answers(EchoTune x) {
        StringBuilder all = new StringBuilder();
        for (int i = 0; i < 9; i++) {
            all.append(x.count(i)).append(' ');
        }
        for (int i = 0; i < 5; i++) {
            all.append(x.clash(i)).append(' ').append(x.leastAt(5, i)).append(' ').append(x.mendAt(i)).append(' ');
            all.append(x.round(3, i)).append(' ').append(x.endless(i)).append(' ').append(x.note(i)).append(' ');
        }
        for (int n = 1; n <= 6; n++) {
            all.append(x.many(n, 0)).append(' ').append(x.least(n)).append(' ').append(x.rounds(n)).append(' ');
        }
        all.append(x.end()).append(' ').append(x.clashes()).append(' ').append(x.depth()).append(' ').append(x.mend());
        all.append(' ').append(x.longest()).append(' ').append(x.endless(999)).append(' ').append(x.delays(1, false));
        return all.append(' ').append(x.delays(2, true)).append(' ').append(x.choir(5, 4, 0)).toString();
    }

    /** For each change: asking all ahead of it leaves all answers behind it as they are without. */
    private static void askedOrNot() {
        List<Change> all = changes();
        for (int at = 1; at < all.size(); at++) {
            for (int from = Math.max(0, at - 3); from < at; from++) {
                EchoTune asked = new EchoTune();
                EchoTune fresh = new EchoTune();
                for (int i = 0; i <= at; i++) {
                    all.get(i).on(asked);
                    all.get(i).on(fresh);
                    if (i == from) {
                        answers(asked);
                    }
                }
                String due = answers(fresh);
                due("change " + at + ", asked behind " + from, answers(asked), due);
                due("change " + at + ", asked again", answers(asked), due);
            }
        }
    }

    /** The same on one object that is asked behind each change, a few questions each time. */
    private static void askedAllAlong() {
        EchoTune x = new EchoTune();
        List<Change> all = changes();
        for (int at = 0; at < all.size(); at++) {
            EchoTune fresh = new EchoTune();
            for (int i = 0; i <= at; i++) {
                all.get(i).on(fresh);
            }
            all.get(at).on(x);
            due("many behind change " + at, x.many(4, 0), fresh.many(4, 0));
            due("least behind change " + at, x.least(4), fresh.least(4));
            due("mend behind change " + at, x.mend(), fresh.mend());
            due("longest behind change " + at, x.longest(), fresh.longest());
            due("endless behind change " + at, x.endless(7), fresh.endless(7));
            due("rounds behind change " + at, x.rounds(2), fresh.rounds(2));
            due("clashes behind change " + at, x.clashes(), fresh.clashes());
            due("delays behind change " + at, x.delays(0, false), fresh.delays(0, false));
        }
    }

    public static void main(String[] args) {
        begin("pairs");
        pairs(12, 1);
        pairs(12, 2);
        pairs(5, 3);
        pairs(2, 8);
        begin("laws and leaps");
        lawsAndLeaps(12, 3);
        lawsAndLeaps(5, 8);
        begin("all lines");
        allLines();
        shorterLines();
        begin("eight echoes");
        eightEchoes();
        begin("TABLES");
        tablesByHand();
        begin("ROUNDS");
        roundsByHand();
        begin("CHOIR");
        choirs();
        begin("asked or not");
        askedOrNot();
        askedAllAlong();
        finish();
    }
}
