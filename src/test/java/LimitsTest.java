import java.lang.management.ManagementFactory;
import java.util.NoSuchElementException;
import java.util.Random;

/**
 * Runs of 512 calls with wild arguments: nothing but voice's NoSuchElementException is thrown, the
 * same calls give the same answers, and what a run makes stays far below the room that there is.
 */
public final class LimitsTest {
    private static final int CALLS = 512;
    // Some 300,000 numbers: the room holds 7.3 million fields and elements for all calls of a run.
    private static final long MOST_BYTES = 2_000_000;

    private static final String[] PIECES = {"notes 2 ;", "notes 3;", "notes 7 ;", "notes 12;", "meter 8 ;", "meter 1 ;",
        "meter 3;", "echo late 1 up 0 ;", "echo late 2 down 24 ;", "echo late 3 turn 24;", "echo late 7 turn 0;",
        "echo late 64 up 24 twice;", "echo late 64 up 3 half back 200;", "law apart ;", "law not ( apart = 1 ) ;",
        "leap move * move < 9 ;", "leap 0 < move;", "pair not ( move = other ) ;", "pair apart + was < 12 or strong ;",
        "again 99 ( ", "again 2 (", "up 3 (", "down 1 (", ")", "0 ", "1 ", "2 ", "6", "rest ", " ; ", "9999", "12345",
        "(((((", "not not not not not ", "%", "longerthaneight "};

    private static final int[] WILD = {Integer.MIN_VALUE, Integer.MAX_VALUE, -1000000, -65, -25, -24, -3, -2, -1, 64, 65,
        199, 200, 201, 464, 999, 1000, 1001, 9999, 10000, 1 << 30};

    private static long heard;
    private static int failures = 0;

    private static int any(Random dice) {
        return dice.nextInt(3) == 0 ? WILD[dice.nextInt(WILD.length)] : dice.nextInt(62) - 1;
    }

    private static void note(long answer) {
        heard = heard * 1000003 + answer;
    }

    private static void tell(EchoTune x, Random dice) {
        StringBuilder text = new StringBuilder();
        while (text.length() < 24) {
            text.append(PIECES[dice.nextInt(PIECES.length)]);
        }
        tell(x, text.toString());
    }

    private static void tell(EchoTune x, String text) {
        for (int i = 0; i < text.length(); i += 24) {
            long[] w = new long[3];
            for (int j = 0; j < 24; j++) {
                w[j / 8] = w[j / 8] << 8 | (i + j < text.length() ? text.charAt(i + j) : 0);
            }
            note(x.feed(w[0], w[1], w[2]));
        }
    }

    private static void call(EchoTune x, Random dice) {
        boolean yes = dice.nextBoolean();
        switch (dice.nextInt(27)) {
            case 0 -> tell(x, dice);
            case 1 -> note(x.cliff());
            case 2 -> note(x.draft());
            case 3 -> note(x.sing(any(dice)));
            case 4 -> note(x.note(any(dice)));
            case 5 -> voice(x, dice.nextInt(3) == 0 ? any(dice) : dice.nextInt(9), any(dice));
            case 6 -> note(x.end());
            case 7 -> note(x.clash(any(dice) % 6));
            case 8 -> note(x.clashes());
            case 9, 10 -> note(x.fix(any(dice), dice.nextInt(7) - 3) ? 1 : 0);
            case 11 -> note(x.depth());
            case 12 -> note(x.many(any(dice), dice.nextInt(10) - 1));
            case 13 -> note(x.least(any(dice)));
            case 14 -> note(x.leastAt(any(dice), any(dice)));
            case 15 -> note(x.endless(any(dice)));
            case 16 -> note(x.longest());
            case 17 -> note(x.round(any(dice) % 10, any(dice) % 9));
            case 18 -> note(x.rounds(any(dice) % 10));
            case 19 -> note(x.mend());
            case 20 -> note(x.mendAt(any(dice)));
            case 21 -> note(x.delays(any(dice), yes));
            case 22 -> note(x.choir(any(dice), dice.nextInt(9) - 1, dice.nextInt(16) - 1));
            case 23 -> note(dice.nextInt(4) == 0 && x.clear() ? 1 : 0);
            case 24, 25 -> note(x.mark(any(dice) % 6, yes) ? 1 : 0);
            default -> note(x.count(any(dice) % 10));
        }
    }

    private static void voice(EchoTune x, int voice, int beat) {
        try {
            note(x.voice(voice, beat));
        } catch (NoSuchElementException e) {
            note(77);
        }
    }

    private static long run(long seed) {
        Random dice = new Random(seed);
        EchoTune x = new EchoTune();
        heard = 0;
        for (int i = 0; i < CALLS; i++) {
            try {
                call(x, dice);
            } catch (RuntimeException e) {
                failures++;
                System.out.println("run " + seed + ", call " + i + " throws " + e);
            }
        }
        return heard;
    }

    /** Cliffs that grow from small tables to the largest, with the dearest calls on each. */
    private static void dearRun() {
        EchoTune x = new EchoTune();
        String[] cliffs = {"notes 2;meter 1;", "notes 4;meter 2;echo late 1 up 1;pair 1;",
            "notes 5;meter 7;echo late 3 up 1;", "notes 9;meter 7;echo late 2 up 1;pair 1;",
            "notes 2;meter 8;echo late 7 up 1;leap move;", "notes 12;meter 8;echo late 2 up 1;pair 1;",
            "notes 3;meter 8;echo late 6 up 1;", "notes 7;meter 8;echo late 3 up 1;pair 1;law not(apart=1);"};
        for (int i = 0; i < 12; i++) {
            tell(x, cliffs[i % cliffs.length]);
            note(x.cliff());
            tell(x, "again 60 ( 1 )");
            note(x.draft());
            note(x.many(60, 0) + x.least(60) + x.mend() + x.endless(999) + x.longest());
            for (int k = 1; k <= 8; k++) {
                note(x.rounds(k));
            }
            for (int beat = 0; beat < 4; beat++) {
                note(x.fix(beat, 1) ? 1 : 0);
                note(x.many(60, 3) + x.leastAt(60, 59) + x.mendAt(59));
            }
            note(x.mark(i % 4, false) ? 1 : 0);
            note(x.clashes() + x.delays(1, true) + x.choir(7, 6, 0) + x.end());
        }
    }

    public static void main(String[] args) {
        for (long seed = 1; seed <= 300; seed++) {
            long first = run(seed);
            if (seed % 10 == 0 && first != run(seed)) {
                failures++;
                System.out.println("run " + seed + " answers otherwise the second time");
            }
        }
        dearRun();
        var bean = (com.sun.management.ThreadMXBean) ManagementFactory.getThreadMXBean();
        long self = Thread.currentThread().getId();
        long before = bean.getThreadAllocatedBytes(self);
        dearRun();
        long made = bean.getThreadAllocatedBytes(self) - before;
        System.out.println("a dear run makes " + made + " bytes");
        if (made > MOST_BYTES) {
            failures++;
            System.out.println("more than " + MOST_BYTES);
        }
        System.out.println(failures + " failures");
        if (failures != 0) {
            System.exit(1);
        }
    }
}
