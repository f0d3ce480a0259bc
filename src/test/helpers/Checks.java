import java.util.NoSuchElementException;

/** What the tests share: answers that are due, texts told sign by sign, objects made ready. */
abstract class Checks {
    static final int LEAST = Integer.MIN_VALUE;
    static final int GREATEST = Integer.MAX_VALUE;

    private static int wrong = 0;
    private static int asked = 0;
    private static String part = "";

    static void begin(String name) {
        part = name;
    }

    static void finish() {
        System.out.println(asked + " answers, " + wrong + " wrong");
        if (wrong != 0) {
            System.exit(1);
        }
    }

    static void due(String what, long got, long want) {
        asked++;
        if (got != want) {
            wrong++;
            System.out.println(part + ": " + what + " answered " + got + ", due is " + want);
        }
    }

    static void due(String what, boolean got, boolean want) {
        due(what, got ? 1 : 0, want ? 1 : 0);
    }

    static void due(String what, String got, String want) {
        asked++;
        if (!got.equals(want)) {
            wrong++;
            System.out.println(part + ": " + what + " gave\n  " + got + "\ndue is\n  " + want);
        }
    }

    static boolean isSilent(EchoTune x, int voice, int beat) {
        try {
            x.voice(voice, beat);
            return false;
        } catch (NoSuchElementException e) {
            return true;
        }
    }

    static void silent(EchoTune x, int voice, int beat) {
        due("voice(" + voice + ", " + beat + ") throws", isSilent(x, voice, beat), true);
    }

    static void sounds(EchoTune x, int voice, int beat, int want) {
        String call = "voice(" + voice + ", " + beat + ")";
        if (isSilent(x, voice, beat)) {
            due(call + " throws", true, false);
        } else {
            due(call, x.voice(voice, beat), want);
        }
    }

    static void clash(EchoTune x, int... want) {
        for (int i = 0; i < want.length; i++) {
            due("clash(" + i + ")", x.clash(i), want[i]);
        }
    }

    /** The eight signs of a text from a place on in one number, the first one highest. */
    static long word(String text, int from) {
        long w = 0;
        for (int i = from; i < from + 8; i++) {
            w = w << 8 | (i < text.length() ? text.charAt(i) : 0);
        }
        return w;
    }

    static int tell(EchoTune x, String text) {
        int signs = 0;
        for (int i = 0; i == 0 || i < text.length(); i += 24) {
            signs = x.feed(word(text, i), word(text, i + 8), word(text, i + 16));
        }
        return signs;
    }

    static int cliff(EchoTune x, String text) {
        tell(x, text);
        return x.cliff();
    }

    static int draft(EchoTune x, String text) {
        tell(x, text);
        return x.draft();
    }

    static EchoTune on(String cliff) {
        EchoTune x = new EchoTune();
        due("cliff '" + cliff + "'", cliff(x, cliff), 0);
        return x;
    }

    static EchoTune on(String cliff, String draft) {
        EchoTune x = on(cliff);
        due("draft '" + draft + "'", draft(x, draft), 0);
        return x;
    }

    static void cliffFault(String text, int kind, int place) {
        due("cliff '" + text + "'", cliff(new EchoTune(), text), kind + 16 * place);
    }

    static void draftFault(String text, int kind, int place) {
        due("draft '" + text + "'", draft(new EchoTune(), text), kind + 16 * place);
    }

    static String times(String text, int many) {
        return text.repeat(many);
    }
}
