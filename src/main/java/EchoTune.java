import java.util.Arrays;
import java.util.NoSuchElementException;

/**
 * A tune that answers itself: a singer before rocks that give all back late, higher or turned over.
 * The names in capitals in the comments are those of the document.
 */
public final class EchoTune {
    public static final int NONE = -1;

    private static final int NO_BEAT = -2;
    private static final int FREE = -2;
    // Far below all that an echo can give back, so that it is never mistaken for a note.
    private static final int SILENT = -1000000;

    private static final int MOST_SIGNS = 1000;
    private static final int MOST_BEATS = 200;
    private static final int MOST_LATE = 64;
    private static final int MOST_ECHOES = 8;
    private static final int MOST_NESTING = 5;
    // A PART lies within 4 others at most, and in each level at most 4 joints or values wait.
    private static final int MOST_WAITING = 64;
    private static final int MOST_STATES = 4096;
    private static final int MOST_NOTES = 12;
    private static final int MOST_METER = 8;
    private static final int TABLE_BEATS = 60;
    private static final int MOST_DELAY = 31;
    private static final int MOST_SHIFT = 24;
    private static final int MARKS = 4;
    private static final int MOST_SINGERS = 6;
    private static final int CHOIR_STARTS = 16;

    // The kinds of lines, numbered as clash(3) tells them.
    private static final int LEAP = 0;
    private static final int LAW = 1;
    private static final int PAIR = 2;

    private final Tape tape = new Tape();
    private final State state = new State();
    private final State[] marks = new State[MARKS];
    private final RockReader rockReader = new RockReader(tape);
    private final DraftReader draftReader = new DraftReader(tape);
    private final Judge judge = new Judge(state.rock);
    private final Tables tables = new Tables(state.rock, judge);
    private final Tally tally = new Tally(state, tables);
    private final Way way = new Way(state, tables);
    private final Forever forever = new Forever(state.rock, tables);
    private final Circle circle = new Circle(state.rock, judge);
    private final int[] choirStart = new int[MOST_SINGERS];
    private final int[] choirUp = new int[MOST_SINGERS];
    private long drawn;

    public EchoTune() {
        rockChanged();
    }

    public int feed(long a, long b, long c) {
        tape.put(a);
        tape.put(b);
        tape.put(c);
        return tape.length;
    }

    public int cliff() {
        int fault = rockReader.read();
        if (fault == 0) {
            state.rock.copyFrom(rockReader.rock);
            state.empty();
            rockChanged();
        }
        return fault;
    }

    public int draft() {
        int fault = draftReader.read(state.rock.notes);
        if (fault == 0) {
            state.takeTune(draftReader.beats, draftReader.length);
            way.forgetMend();
        }
        return fault;
    }

    public int sing(int note) {
        if (note < NONE || note >= state.rock.notes || state.length >= MOST_BEATS) {
            return NONE;
        }
        state.append(note);
        way.forgetMend();
        return state.length;
    }

    public int note(int beat) {
        return state.sung(beat);
    }

    public int voice(int voice, int beat) throws NoSuchElementException {
        int sound = state.heard(voice, beat);
        if (sound == SILENT) {
            throw new NoSuchElementException();
        }
        return sound;
    }

    public int end() {
        for (int beat = lastBeat(); beat >= 0; beat--) {
            for (int v = 0; v <= state.rock.echoes; v++) {
                if (state.heard(v, beat) != SILENT) {
                    return beat;
                }
            }
        }
        return NONE;
    }

    public int clash(int what) {
        if (what < 0 || what > 4) {
            return NONE;
        }
        int last = lastBeat();
        for (int beat = 0; beat <= last; beat++) {
            int fault = faultInBeat(beat);
            if (fault != NONE) {
                return what == 0 ? beat : Judge.partOfFault(fault, what);
            }
        }
        return NONE;
    }

    public int clashes() {
        int many = 0;
        int last = lastBeat();
        for (int beat = 0; beat <= last; beat++) {
            if (faultInBeat(beat) != NONE) {
                many++;
            }
        }
        return many;
    }

    public boolean fix(int beat, int note) {
        if (beat < 0 || beat >= TABLE_BEATS || note < FREE || note >= state.rock.notes) {
            return false;
        }
        state.fixed[beat] = note;
        fixedChanged();
        return true;
    }

    public int depth() {
        return tables.areThere() ? tables.depth : NONE;
    }

    public long many(int n, int part) {
        if (part < 0 || part > 7 || n < 1 || n > TABLE_BEATS || !tables.ready()) {
            return NONE;
        }
        return tally.nineDigits(n, part);
    }

    public int least(int n) {
        return canTellLeast(n) ? way.leastMotion(n) : NONE;
    }

    public int leastAt(int n, int beat) {
        if (beat < 0 || beat >= n || !canTellLeast(n) || way.leastMotion(n) == NONE) {
            return NO_BEAT;
        }
        return way.leastNote(beat);
    }

    public int endless(int i) {
        return tables.ready() ? forever.noteAt(i) : NONE;
    }

    public int longest() {
        return tables.ready() ? forever.mostBeats() : NONE;
    }

    public int round(int k, int i) {
        if (i < 0 || i >= k || !circle.canTell(k) || circle.howMany(k) == 0) {
            return NONE;
        }
        return circle.noteOfFirst(k, i);
    }

    public int rounds(int k) {
        return circle.canTell(k) ? circle.howMany(k) : NONE;
    }

    public int mend() {
        return canMend() ? way.fewestChanges() : NONE;
    }

    public int mendAt(int beat) {
        if (beat < 0 || beat >= state.length || !canMend() || way.fewestChanges() == NONE) {
            return NO_BEAT;
        }
        return way.mendedNote(beat);
    }

    public int delays(int n, boolean turned) {
        if (n > MOST_SHIFT || n < (turned ? 0 : -MOST_SHIFT)) {
            return NONE;
        }
        int sign = turned ? -1 : 1;
        int offset = turned ? 2 * n : n;
        int bits = 0;
        for (int late = 1; late <= MOST_DELAY; late++) {
            if (isOwnCanon(late, sign, offset)) {
                bits |= 1 << late;
            }
        }
        return bits;
    }

    public int choir(int seed, int singers, int what) {
        if (seed < 0 || seed > 9999 || singers < 2 || singers > MOST_SINGERS) {
            return NONE;
        }
        drawChoir(seed, singers);
        if (what == 0 || what == 1) {
            return hearChoir(singers, what == 1);
        }
        if (what >= 2 && what < 2 + singers) {
            return choirStart[what - 2];
        }
        if (what >= 8 && what < 8 + singers) {
            return choirUp[what - 8];
        }
        return NONE;
    }

    public boolean clear() {
        state.empty();
        fixedChanged();
        way.forgetMend();
        return true;
    }

    public boolean mark(int mark, boolean back) {
        if (mark < 0 || mark >= MARKS) {
            return false;
        }
        State held = marks[mark];
        if (back) {
            if (held == null) {
                return false;
            }
            state.copyFrom(held);
            rockChanged();
            return true;
        }
        if (held == null) {
            held = new State();
            marks[mark] = held;
        }
        held.copyFrom(state);
        return true;
    }

    public int count(int what) {
        switch (what) {
            case 0:
                return state.rock.notes;
            case 1:
                return state.rock.meter;
            case 2:
                return state.rock.echoes;
            case 3:
                return state.rock.lines[LAW];
            case 4:
                return state.rock.lines[LEAP];
            case 5:
                return state.rock.lines[PAIR];
            case 6:
                return state.length;
            case 7:
                return state.howManyFixed();
            case 8:
                return tape.length;
            default:
                return NONE;
        }
    }

    private boolean canTellLeast(int n) {
        return n >= 1 && n <= TABLE_BEATS && tables.ready();
    }

    private boolean canMend() {
        return state.length >= 1 && state.length <= TABLE_BEATS && tables.ready();
    }

    private void rockChanged() {
        judge.forget();
        tables.forget();
        forever.forget();
        circle.forget();
        way.forgetMend();
        fixedChanged();
    }

    private void fixedChanged() {
        tally.forget();
        way.forgetLeast();
    }

    /** Rows grow at least twofold, so that all that are ever made are not much more than the last. */
    private static int roomFor(int need, int had, int most) {
        return Math.max(need, Math.min(2 * had, most));
    }

    /** No BEAT behind this one sounds: an echo with the pace twice takes two BEATS for each. */
    private int lastBeat() {
        return state.length == 0 ? NONE : 2 * state.length + MOST_LATE;
    }

    private int faultInBeat(int beat) {
        int voices = 1 + state.rock.echoes;
        for (int v = 0; v < voices; v++) {
            judge.now[v] = state.heard(v, beat);
            judge.before[v] = state.heard(v, beat - 1);
        }
        return judge.firstFault(state.rock.strongAt(beat), voices, true);
    }

    private boolean isOwnCanon(int late, int sign, int offset) {
        int last = state.length + late;
        for (int beat = 0; beat < last; beat++) {
            judge.now[0] = state.shifted(beat, 1, 0);
            judge.before[0] = state.shifted(beat - 1, 1, 0);
            judge.now[1] = state.shifted(beat - late, sign, offset);
            judge.before[1] = state.shifted(beat - late - 1, sign, offset);
            if (judge.firstFault(state.rock.strongAt(beat), 2, true) != NONE) {
                return false;
            }
        }
        return true;
    }

    private void drawChoir(int seed, int singers) {
        drawn = seed;
        for (int s = 0; s < singers && s < MOST_SINGERS; s++) {
            choirStart[s] = drawBelow(CHOIR_STARTS);
            choirUp[s] = drawBelow(state.rock.notes);
        }
    }

    private int drawBelow(int m) {
        drawn = (drawn * 1103515245L + 12345L) % 2147483648L;
        return m > 0 ? (int) (drawn / 65536L % m) : 0;
    }

    private int hearChoir(int singers, boolean wantFirst) {
        int first = NONE;
        int many = 0;
        int last = state.length + CHOIR_STARTS;
        for (int beat = 0; beat < last; beat++) {
            for (int s = 0; s < singers && s < MOST_SINGERS; s++) {
                judge.now[s] = state.shifted(beat - choirStart[s], 1, choirUp[s]);
                judge.before[s] = state.shifted(beat - 1 - choirStart[s], 1, choirUp[s]);
            }
            if (judge.firstFault(state.rock.strongAt(beat), singers, false) != NONE) {
                first = many == 0 ? beat : first;
                many++;
            }
        }
        return wantFirst ? first : many;
    }

    /** The TAPE, and its TOKENS one by one with the first FAULT that a reader finds. */
    private static final class Tape {
        static final int END = 0;
        static final int WORD = 1;
        static final int NUMBER = 2;
        static final int SIGN = 3;
        static final int WRONG = 4;

        private static final int LONGEST_WORD = 8;
        private static final int LONGEST_NUMBER = 4;
        private static final String SIGNS = "()<=+-*;";

        private final byte[] signs = new byte[MOST_SIGNS];
        int length;
        int fault;
        int kind;
        int value;
        private int place;
        private int next;

        void put(long eight) {
            for (int shift = 56; shift >= 0; shift -= 8) {
                int sign = (int) ((eight >> shift) & 255L);
                boolean fits = sign == 10 || sign >= 32 && sign <= 126;
                if (fits && length < MOST_SIGNS) {
                    signs[length] = (byte) sign;
                    length++;
                }
            }
        }

        void begin() {
            fault = 0;
            next = 0;
            advance();
        }

        /** What reads the TAPE takes it, with a FAULT or without. */
        int finish() {
            length = 0;
            return fault;
        }

        boolean goesOn() {
            return fault == 0 && kind != END;
        }

        void wrong(int faultKind) {
            if (fault == 0) {
                fault = faultKind + 16 * place;
            }
        }

        void advance() {
            while (next < length && (signs[next] == 10 || signs[next] == 32)) {
                next++;
            }
            place = next;
            int letters = run('a', 'z');
            int digits = run('0', '9');
            if (next >= length) {
                kind = END;
            } else if (letters > 0) {
                next += letters;
                kind = letters > LONGEST_WORD ? WRONG : WORD;
            } else if (digits > 0) {
                takeNumber(digits);
            } else {
                value = signs[next];
                kind = SIGNS.indexOf((char) value) >= 0 ? SIGN : WRONG;
                next++;
            }
        }

        /** How many signs from here on lie from the one to the other. */
        private int run(int low, int high) {
            int to = next;
            while (to < length && signs[to] >= low && signs[to] <= high) {
                to++;
            }
            return to - next;
        }

        private void takeNumber(int digits) {
            kind = digits > LONGEST_NUMBER ? WRONG : NUMBER;
            value = 0;
            for (int i = 0; i < digits && i < LONGEST_NUMBER; i++) {
                value = 10 * value + signs[next + i] - '0';
            }
            next += digits;
        }

        boolean isWord(String word) {
            int size = word.length();
            if (kind != WORD || next - place != size || next > MOST_SIGNS) {
                return false;
            }
            for (int i = 0; i < size; i++) {
                if (signs[place + i] != word.charAt(i)) {
                    return false;
                }
            }
            return true;
        }

        boolean isSign(char sign) {
            return kind == SIGN && value == sign;
        }

        boolean tookWord(String word) {
            boolean is = fault == 0 && isWord(word);
            if (is) {
                advance();
            }
            return is;
        }

        void needWord(String word) {
            if (fault == 0 && isWord(word)) {
                advance();
            } else {
                wrong(1);
            }
        }

        void needSign(char sign) {
            if (fault == 0 && isSign(sign)) {
                advance();
            } else {
                wrong(1);
            }
        }

        int needNumber(int low, int high) {
            if (fault != 0 || kind != NUMBER) {
                wrong(1);
                return low;
            }
            if (value < low || value > high) {
                wrong(4);
                return low;
            }
            int number = value;
            advance();
            return number;
        }
    }

    /** The CLIFF: its numbers, its echoes, and each E of its lines in postfix order. */
    private static final class Rock {
        static final int EVEN = 0;
        static final int TWICE = 1;
        static final int HALF = 2;

        // In the code a number stands for itself, a fact f for -1 - f, and these for what is done.
        static final int NOT = -6;
        static final int AND = -7;
        static final int OR = -8;
        static final int BELOW = -9;
        static final int EQUAL = -10;
        static final int PLUS = -11;
        static final int MINUS = -12;
        static final int TIMES = -13;

        private static final int LINES = 8;

        // The notes are never below 2 and the meter never below 1, so both may divide.
        int notes = 7;
        int meter = 4;
        int echoes;
        final int[] late = new int[MOST_ECHOES];
        // An echo gives back sign * note + offset, so higher, lower and turned are one thing.
        final int[] sign = new int[MOST_ECHOES];
        final int[] offset = new int[MOST_ECHOES];
        final int[] pace = new int[MOST_ECHOES];
        final int[] back = new int[MOST_ECHOES];
        final int[] lines = new int[3];
        final int[] lineFrom = new int[LINES];
        final int[] lineUpTo = new int[LINES];
        final int[] code = new int[MOST_SIGNS];
        int codeLength;

        static int mostLines(int kind) {
            return kind == LAW ? 4 : 2;
        }

        static int place(int kind, int line) {
            int first = kind == LEAP ? 0 : kind == LAW ? 2 : 6;
            return first + line;
        }

        void reset() {
            notes = 7;
            meter = 4;
            echoes = 0;
            codeLength = 0;
            Arrays.fill(lines, 0);
        }

        void copyFrom(Rock other) {
            notes = other.notes;
            meter = other.meter;
            echoes = other.echoes;
            codeLength = other.codeLength;
            System.arraycopy(other.late, 0, late, 0, MOST_ECHOES);
            System.arraycopy(other.sign, 0, sign, 0, MOST_ECHOES);
            System.arraycopy(other.offset, 0, offset, 0, MOST_ECHOES);
            System.arraycopy(other.pace, 0, pace, 0, MOST_ECHOES);
            System.arraycopy(other.back, 0, back, 0, MOST_ECHOES);
            System.arraycopy(other.lines, 0, lines, 0, 3);
            System.arraycopy(other.lineFrom, 0, lineFrom, 0, LINES);
            System.arraycopy(other.lineUpTo, 0, lineUpTo, 0, LINES);
            System.arraycopy(other.code, 0, code, 0, codeLength);
        }

        void emit(int what) {
            if (codeLength < MOST_SIGNS) {
                code[codeLength] = what;
                codeLength++;
            }
        }

        int strongAt(int beat) {
            return meter > 0 && beat % meter == 0 ? 1 : 0;
        }

        boolean isPlain() {
            for (int e = 0; e < echoes; e++) {
                if (pace[e] != EVEN || back[e] != 0) {
                    return false;
                }
            }
            return true;
        }

        int greatestLate() {
            int greatest = 0;
            for (int e = 0; e < echoes; e++) {
                greatest = Math.max(greatest, late[e]);
            }
            return greatest;
        }

        int givenBack(int echo, int note) {
            return note < 0 ? SILENT : sign[echo] * note + offset[echo];
        }

        /** The BEAT that an echo gives back, NONE if it can be none. */
        int sourceOf(int echo, int beat) {
            if (beat < late[echo] || beat - late[echo] > 2 * MOST_BEATS) {
                return NONE;
            }
            int source = beat - late[echo];
            if (pace[echo] == TWICE) {
                source /= 2;
            } else if (pace[echo] == HALF) {
                source *= 2;
            }
            return back[echo] > 0 && source >= back[echo] ? NONE : source;
        }
    }

    /** Reads the TAPE as a CLIFF into a Rock of its own, which counts only without a FAULT. */
    private static final class RockReader {
        private static final int OPEN = 0;
        private static final int COMPARED = 2;

        private final Tape tape;
        final Rock rock = new Rock();
        private boolean notesTold;
        private boolean meterTold;
        private int kind;
        // What is not emitted yet: joints that wait for their right side, not and ( that stand open.
        private final int[] waiting = new int[MOST_WAITING];
        private int waits;
        private int within;

        RockReader(Tape tape) {
            this.tape = tape;
        }

        int read() {
            rock.reset();
            notesTold = false;
            meterTold = false;
            tape.begin();
            for (int i = 0; i < MOST_SIGNS && tape.goesOn(); i++) {
                readLine();
                tape.needSign(';');
            }
            return tape.finish();
        }

        private void readLine() {
            if (tape.isWord("notes")) {
                readNotes();
            } else if (tape.isWord("meter")) {
                readMeter();
            } else if (tape.isWord("echo")) {
                readEcho();
            } else if (tape.isWord("leap")) {
                readLaw(LEAP);
            } else if (tape.isWord("law")) {
                readLaw(LAW);
            } else if (tape.isWord("pair")) {
                readLaw(PAIR);
            } else {
                tape.wrong(1);
            }
        }

        private void readNotes() {
            if (notesTold) {
                tape.wrong(3);
                return;
            }
            notesTold = true;
            tape.advance();
            rock.notes = tape.needNumber(2, MOST_NOTES);
        }

        private void readMeter() {
            if (meterTold) {
                tape.wrong(3);
                return;
            }
            meterTold = true;
            tape.advance();
            rock.meter = tape.needNumber(1, MOST_METER);
        }

        private void readEcho() {
            int e = rock.echoes;
            if (e >= MOST_ECHOES) {
                tape.wrong(5);
                return;
            }
            tape.advance();
            tape.needWord("late");
            rock.late[e] = tape.needNumber(1, MOST_LATE);
            readShift(e);
            rock.pace[e] = tape.tookWord("twice") ? Rock.TWICE : tape.tookWord("half") ? Rock.HALF : Rock.EVEN;
            rock.back[e] = tape.tookWord("back") ? tape.needNumber(1, MOST_BEATS) : 0;
            rock.echoes++;
        }

        private void readShift(int e) {
            rock.sign[e] = 1;
            if (tape.tookWord("up")) {
                rock.offset[e] = tape.needNumber(0, MOST_SHIFT);
            } else if (tape.tookWord("down")) {
                rock.offset[e] = -tape.needNumber(0, MOST_SHIFT);
            } else {
                tape.needWord("turn");
                rock.sign[e] = -1;
                rock.offset[e] = 2 * tape.needNumber(0, MOST_SHIFT);
            }
        }

        private void readLaw(int lineKind) {
            int line = rock.lines[lineKind];
            if (line >= Rock.mostLines(lineKind)) {
                tape.wrong(5);
                return;
            }
            kind = lineKind;
            waits = 0;
            within = 0;
            int place = Rock.place(lineKind, line);
            rock.lineFrom[place] = rock.codeLength;
            tape.advance();
            readE();
            rock.lineUpTo[place] = rock.codeLength;
            rock.lines[lineKind]++;
        }

        /** An E ends where a TOKEN can't go on with it; what comes next is the caller's to judge. */
        private void readE() {
            boolean wantsPart = true;
            for (int i = 0; i <= MOST_SIGNS && tape.fault == 0; i++) {
                if (wantsPart) {
                    wantsPart = !endedPart();
                } else if (jointHere() != 0) {
                    join(jointHere());
                    wantsPart = true;
                } else if (!closedBracket()) {
                    return;
                }
            }
        }

        /** Takes the TOKEN that begins a PART: whether the PART ends with it, too. */
        private boolean endedPart() {
            int fact = factHere();
            boolean isNumber = tape.kind == Tape.NUMBER;
            boolean isNot = tape.isWord("not");
            if (!isNumber && fact < 0 && !isNot && !tape.isSign('(')) {
                tape.wrong(1);
                return false;
            }
            if (within >= MOST_NESTING) {
                tape.wrong(5);
                return false;
            }
            if (isNumber || fact >= 0) {
                rock.emit(isNumber ? tape.value : -1 - fact);
                endNots();
            } else {
                push(isNot ? Rock.NOT : OPEN);
                within++;
            }
            tape.advance();
            return isNumber || fact >= 0;
        }

        /** A PART has ended, so each not right ahead of it has all that it wants. */
        private void endNots() {
            while (waits > 0 && waiting[waits - 1] == Rock.NOT) {
                rock.emit(Rock.NOT);
                waits--;
                within--;
            }
        }

        private int jointHere() {
            if (tape.kind == Tape.WORD) {
                return tape.isWord("and") ? Rock.AND : tape.isWord("or") ? Rock.OR : 0;
            }
            if (tape.kind != Tape.SIGN) {
                return 0;
            }
            switch (tape.value) {
                case '<':
                    return Rock.BELOW;
                case '=':
                    return Rock.EQUAL;
                case '+':
                    return Rock.PLUS;
                case '-':
                    return Rock.MINUS;
                case '*':
                    return Rock.TIMES;
                default:
                    return 0;
            }
        }

        private void join(int joint) {
            int rank = rank(joint);
            emitDownTo(rank == COMPARED ? rank + 1 : rank);
            if (rank == COMPARED && waits > 0 && rank(waiting[waits - 1]) == COMPARED) {
                tape.wrong(1);
                return;
            }
            push(joint);
            tape.advance();
        }

        /** Whether there was a ) that closes one of this E's own. */
        private boolean closedBracket() {
            emitDownTo(1);
            if (waits == 0 || waiting[waits - 1] != OPEN) {
                return false;
            }
            if (!tape.isSign(')')) {
                tape.wrong(1);
                return false;
            }
            waits--;
            within--;
            endNots();
            tape.advance();
            return true;
        }

        private void emitDownTo(int rank) {
            while (waits > 0 && rank(waiting[waits - 1]) >= rank) {
                rock.emit(waiting[waits - 1]);
                waits--;
            }
        }

        private void push(int what) {
            if (waits < MOST_WAITING) {
                waiting[waits] = what;
                waits++;
            }
        }

        /** The higher the rank, the closer it binds; 0 is what nothing is taken across. */
        private static int rank(int what) {
            switch (what) {
                case Rock.AND:
                case Rock.OR:
                    return 1;
                case Rock.BELOW:
                case Rock.EQUAL:
                    return COMPARED;
                case Rock.PLUS:
                case Rock.MINUS:
                    return 3;
                case Rock.TIMES:
                    return 4;
                default:
                    return 0;
            }
        }

        /** The fact that the TOKEN names in a line of this kind, NONE if it names none. */
        private int factHere() {
            if (tape.isWord("strong")) {
                return Judge.STRONG;
            }
            if (kind != LEAP && tape.isWord("apart")) {
                return Judge.APART;
            }
            if (kind == PAIR && tape.isWord("was")) {
                return Judge.WAS;
            }
            if (kind != LAW && tape.isWord("move")) {
                return Judge.MOVE;
            }
            return kind == PAIR && tape.isWord("other") ? Judge.OTHER : NONE;
        }
    }

    /** Reads the TAPE as a DRAFT into a row of its own, which counts only without a FAULT. */
    private static final class DraftReader {
        private final Tape tape;
        final int[] beats = new int[MOST_BEATS];
        int length;
        // What stands open, one entry for each ( that is not closed yet.
        private final int[] times = new int[MOST_NESTING];
        private final int[] start = new int[MOST_NESTING];
        private final int[] ledBy = new int[MOST_NESTING];
        private int open;
        private int led;
        private int notes;

        DraftReader(Tape tape) {
            this.tape = tape;
        }

        int read(int cliffNotes) {
            notes = cliffNotes;
            length = 0;
            open = 0;
            led = 0;
            tape.begin();
            for (int i = 0; i < MOST_SIGNS && tape.goesOn(); i++) {
                readToken();
            }
            if (open > 0) {
                tape.wrong(1);
            }
            return tape.finish();
        }

        private void readToken() {
            if (tape.kind == Tape.NUMBER) {
                readNote();
            } else if (tape.isWord("rest")) {
                addBeat(NONE);
            } else if (tape.isWord("again")) {
                readGroup(1, 99, 0);
            } else if (tape.isWord("up")) {
                readGroup(0, MOST_SHIFT, 1);
            } else if (tape.isWord("down")) {
                readGroup(0, MOST_SHIFT, -1);
            } else if (tape.isSign(')') && open > 0) {
                closeGroup();
            } else {
                tape.wrong(1);
            }
        }

        private void readNote() {
            int note = tape.value + led;
            if (note < 0 || note >= notes) {
                tape.wrong(4);
            } else {
                addBeat(note);
            }
        }

        private void addBeat(int note) {
            if (open >= MOST_NESTING || length >= MOST_BEATS) {
                tape.wrong(5);
                return;
            }
            beats[length] = note;
            length++;
            tape.advance();
        }

        /** The way is 1 or -1 for up and down; 0 for again, which leads nothing. */
        private void readGroup(int low, int high, int way) {
            if (open >= MOST_NESTING) {
                tape.wrong(5);
                return;
            }
            tape.advance();
            int number = tape.needNumber(low, high);
            tape.needSign('(');
            times[open] = way == 0 ? number : 1;
            start[open] = length;
            ledBy[open] = way * number;
            led += ledBy[open];
            open++;
        }

        private void closeGroup() {
            int from = start[open - 1];
            int size = length - from;
            int grown = from + times[open - 1] * size;
            if (grown > MOST_BEATS) {
                tape.wrong(5);
                return;
            }
            for (int i = length; i < grown; i++) {
                beats[i] = beats[i - size];
            }
            length = grown;
            led -= ledBy[open - 1];
            open--;
            tape.advance();
        }
    }

    /** The CLIFF, the TUNE and what is FIXED: what a MARK holds. */
    private static final class State {
        final Rock rock = new Rock();
        private final int[] tune = new int[MOST_BEATS];
        int length;
        final int[] fixed = new int[TABLE_BEATS];

        State() {
            Arrays.fill(fixed, FREE);
        }

        void empty() {
            length = 0;
            Arrays.fill(fixed, FREE);
        }

        void copyFrom(State other) {
            rock.copyFrom(other.rock);
            takeTune(other.tune, other.length);
            System.arraycopy(other.fixed, 0, fixed, 0, TABLE_BEATS);
        }

        void takeTune(int[] beats, int many) {
            System.arraycopy(beats, 0, tune, 0, many);
            length = many;
        }

        void append(int note) {
            if (length < MOST_BEATS) {
                tune[length] = note;
                length++;
            }
        }

        int howManyFixed() {
            int many = 0;
            for (int beat = 0; beat < TABLE_BEATS; beat++) {
                many += isFree(beat) ? 0 : 1;
            }
            return many;
        }

        /** The least and the greatest digit, as TABLES have them, that a BEAT is free to take. */
        int lowDigit(int beat) {
            return isFree(beat) ? 1 : fixed[beat] + 1;
        }

        int highDigit(int beat) {
            return isFree(beat) ? rock.notes : fixed[beat] + 1;
        }

        private boolean isFree(int beat) {
            return beat < 0 || beat >= TABLE_BEATS || fixed[beat] == FREE;
        }

        int sung(int beat) {
            return beat < 0 || beat >= length ? NO_BEAT : tune[beat];
        }

        int shifted(int beat, int sign, int offset) {
            int note = sung(beat);
            return note < 0 ? SILENT : sign * note + offset;
        }

        /** What a VOICE sounds in a BEAT; SILENT, too, if there is no such VOICE. */
        int heard(int voice, int beat) {
            if (voice == 0) {
                return shifted(beat, 1, 0);
            }
            if (voice < 0 || voice > rock.echoes) {
                return SILENT;
            }
            return rock.givenBack(voice - 1, sung(rock.sourceOf(voice - 1, beat)));
        }
    }

    /** Tells for the VOICES laid before it, as they sound now and before, whether the law is KEPT. */
    private static final class Judge {
        static final int STRONG = 0;
        static final int APART = 1;
        static final int WAS = 2;
        static final int MOVE = 3;
        static final int OTHER = 4;

        private static final int MOST_VOICES = 1 + MOST_ECHOES;
        // All that sounds lies from -24 to 48, and notes move by 11 at most.
        private static final int APARTS = 128;
        private static final int MOVES = 32;
        private static final int PAIR_SLOTS = 4096;

        final int[] now = new int[MOST_VOICES];
        final int[] before = new int[MOST_VOICES];
        private final Rock rock;
        private final int[] facts = new int[5];
        private final int[] waiting = new int[MOST_WAITING];
        // What is known of the lines: 0 nothing, 1 all are kept, 2 + the first line that is not.
        private final int[] leapKnown = new int[2 * MOVES];
        private final int[] lawKnown = new int[2 * APARTS];
        // A slot holds 4 times its facts in one number, and what is known of these.
        private int[] pairKnown;

        Judge(Rock rock) {
            this.rock = rock;
        }

        void forget() {
            Arrays.fill(leapKnown, 0);
            Arrays.fill(lawKnown, 0);
            if (rock.lines[PAIR] > 0) {
                if (pairKnown == null) {
                    pairKnown = new int[PAIR_SLOTS];
                }
                Arrays.fill(pairKnown, 0);
            }
        }

        static int fault(int a, int b, int kind, int line) {
            return ((a * 16 + b) * 4 + kind) * 4 + line;
        }

        /** What clash() tells of a fault: 1 and 2 the VOICES, 3 the kind, 4 the line. */
        static int partOfFault(int fault, int what) {
            switch (what) {
                case 1:
                    return fault / 256;
                case 2:
                    return fault / 16 % 16;
                case 3:
                    return fault / 4 % 4;
                default:
                    return fault % 4;
            }
        }

        /** The first fault of all VOICES, the leaps of VOICE 0 among them if these are asked for. */
        int firstFault(int strong, int voices, boolean withLeaps) {
            int line = withLeaps ? brokenLeap(strong) : NONE;
            if (line >= 0) {
                return fault(0, 0, LEAP, line);
            }
            for (int a = 0; a < voices - 1; a++) {
                int found = faultOf(a, voices, strong);
                if (found != NONE) {
                    return found;
                }
            }
            return NONE;
        }

        /** The first fault of a VOICE with one behind it. */
        int faultOf(int a, int voices, int strong) {
            if (a < 0 || voices > MOST_VOICES || a >= voices || now[a] == SILENT) {
                return NONE;
            }
            for (int b = a + 1; b < voices; b++) {
                if (now[b] == SILENT) {
                    continue;
                }
                int line = brokenLaw(strong, a, b);
                if (line >= 0) {
                    return fault(a, b, LAW, line);
                }
                line = brokenPair(strong, a, b);
                if (line >= 0) {
                    return fault(a, b, PAIR, line);
                }
            }
            return NONE;
        }

        int brokenLeap(int strong) {
            if (rock.lines[LEAP] == 0 || now[0] == SILENT || before[0] == SILENT) {
                return NONE;
            }
            facts[STRONG] = strong;
            facts[MOVE] = now[0] - before[0];
            int slot = 2 * (facts[MOVE] + MOVES / 2) + strong;
            if (slot < 0 || slot >= 2 * MOVES) {
                return firstBroken(LEAP);
            }
            if (leapKnown[slot] == 0) {
                leapKnown[slot] = 2 + firstBroken(LEAP);
            }
            return leapKnown[slot] - 2;
        }

        private int brokenLaw(int strong, int a, int b) {
            if (rock.lines[LAW] == 0) {
                return NONE;
            }
            facts[STRONG] = strong;
            facts[APART] = Math.abs(now[a] - now[b]);
            int slot = 2 * facts[APART] + strong;
            if (slot < 0 || slot >= 2 * APARTS) {
                return firstBroken(LAW);
            }
            if (lawKnown[slot] == 0) {
                lawKnown[slot] = 2 + firstBroken(LAW);
            }
            return lawKnown[slot] - 2;
        }

        private int brokenPair(int strong, int a, int b) {
            if (rock.lines[PAIR] == 0 || before[a] == SILENT || before[b] == SILENT) {
                return NONE;
            }
            facts[STRONG] = strong;
            facts[APART] = Math.abs(now[a] - now[b]);
            facts[WAS] = Math.abs(before[a] - before[b]);
            facts[MOVE] = now[a] - before[a];
            facts[OTHER] = now[b] - before[b];
            int key = pairKey();
            if (key < 0 || pairKnown == null) {
                return firstBroken(PAIR);
            }
            int slot = (key * 0x9E3779B1) >>> 20;
            if (slot >= PAIR_SLOTS) {
                return firstBroken(PAIR);
            }
            if (pairKnown[slot] / 4 != key || pairKnown[slot] == 0) {
                pairKnown[slot] = 4 * key + 2 + firstBroken(PAIR);
            }
            return pairKnown[slot] % 4 - 2;
        }

        /** The facts of a pair in one number of 25 bits, NONE if they do not fit. */
        private int pairKey() {
            int move = facts[MOVE] + MOVES / 2;
            int other = facts[OTHER] + MOVES / 2;
            if (facts[APART] >= APARTS || facts[WAS] >= APARTS) {
                return NONE;
            }
            if (move < 0 || move >= MOVES || other < 0 || other >= MOVES) {
                return NONE;
            }
            int aparts = facts[APART] * APARTS + facts[WAS];
            return ((aparts * MOVES + move) * MOVES + other) * 2 + facts[STRONG];
        }

        private int firstBroken(int kind) {
            for (int line = 0; line < rock.lines[kind]; line++) {
                if (worth(Rock.place(kind, line)) == 0) {
                    return line;
                }
            }
            return NONE;
        }

        /** What comes of the E of a line with the facts as they are. */
        private int worth(int place) {
            int top = 0;
            for (int i = rock.lineFrom[place]; i < rock.lineUpTo[place]; i++) {
                int what = rock.code[i];
                if (what > Rock.NOT && top < MOST_WAITING) {
                    waiting[top] = what >= 0 ? what : facts[-1 - what];
                    top++;
                } else if (what == Rock.NOT && top >= 1) {
                    waiting[top - 1] = waiting[top - 1] == 0 ? 1 : 0;
                } else if (what < Rock.NOT && top >= 2) {
                    int left = waiting[top - 2];
                    int right = waiting[top - 1];
                    top--;
                    switch (what) {
                        case Rock.AND:
                            waiting[top - 1] = left != 0 && right != 0 ? 1 : 0;
                            break;
                        case Rock.OR:
                            waiting[top - 1] = left != 0 || right != 0 ? 1 : 0;
                            break;
                        case Rock.BELOW:
                            waiting[top - 1] = left < right ? 1 : 0;
                            break;
                        case Rock.EQUAL:
                            waiting[top - 1] = left == right ? 1 : 0;
                            break;
                        case Rock.PLUS:
                            waiting[top - 1] = left + right;
                            break;
                        case Rock.MINUS:
                            waiting[top - 1] = left - right;
                            break;
                        default:
                            waiting[top - 1] = left * right;
                            break;
                    }
                }
            }
            return waiting[0];
        }
    }

    /**
     * The TABLES: a state is what the singer did in the last DEPTH BEATS, the last one lowest, with
     * 0 for a rest and 1 + the note else. So state 0 stands for the time before BEAT 0, too.
     */
    private static final class Tables {
        private static final int MOST_DEPTH = 12;

        private final Rock rock;
        private final Judge judge;
        // past[j] is what was sung j BEATS ago.
        private final int[] past = new int[MOST_DEPTH + 1];
        // For each state and strength the digits that keep the law next, as bits.
        private int[] allowed;
        private boolean measured;
        private boolean filled;
        private boolean there;
        int depth;
        int size;

        Tables(Rock rock, Judge judge) {
            this.rock = rock;
            this.judge = judge;
        }

        void forget() {
            measured = false;
            filled = false;
        }

        boolean areThere() {
            if (!measured) {
                depth = Math.max(1, rock.greatestLate() + (rock.lines[PAIR] > 0 ? 1 : 0));
                size = 1;
                for (int i = 0; i < depth && size <= MOST_STATES; i++) {
                    size *= rock.notes + 1;
                }
                there = size <= MOST_STATES && depth <= MOST_DEPTH && rock.isPlain();
                measured = true;
            }
            return there;
        }

        /** Whether the TABLES are there; they are filled then. */
        boolean ready() {
            if (!areThere()) {
                return false;
            }
            if (allowed == null || allowed.length < 2 * size) {
                allowed = new int[roomFor(2 * size, allowed == null ? 0 : allowed.length, 2 * MOST_STATES)];
            }
            if (!filled) {
                for (int s = 0; s < size; s++) {
                    layVoices(s);
                    allowed[2 * s] = rock.meter > 1 ? findAllowed(0) : 0;
                    allowed[2 * s + 1] = findAllowed(1);
                }
                filled = true;
            }
            return true;
        }

        int after(int state, int digit) {
            return size > 0 ? (state * (rock.notes + 1) + digit) % size : 0;
        }

        int lastDigit(int state) {
            return state % (rock.notes + 1);
        }

        /** The digits that keep the law in a BEAT behind a state, as bits. */
        int allowedIn(int beat, int state) {
            int slot = 2 * state + rock.strongAt(beat);
            return allowed == null || slot < 0 || slot >= allowed.length ? 0 : allowed[slot];
        }

        /** Whether the echoes behind the end keep the law, if the tune ends ahead of a BEAT. */
        boolean endsWell(int beat, int state) {
            int left = state;
            for (int i = 0; i < depth && left != 0; i++) {
                if ((allowedIn(beat + i, left) & 1) == 0) {
                    return false;
                }
                left = after(left, 0);
            }
            return true;
        }

        private int findAllowed(int strong) {
            int voices = 1 + rock.echoes;
            // Two echoes sound the same whatever the singer does, so they are looked at once.
            for (int a = 1; a < voices; a++) {
                if (judge.faultOf(a, voices, strong) != NONE) {
                    return 0;
                }
            }
            int digits = 0;
            for (int digit = 0; digit <= rock.notes; digit++) {
                judge.now[0] = digit == 0 ? SILENT : digit - 1;
                if (judge.brokenLeap(strong) < 0 && judge.faultOf(0, voices, strong) == NONE) {
                    digits |= 1 << digit;
                }
            }
            return digits;
        }

        private void layVoices(int state) {
            int left = state;
            for (int j = 1; j <= depth && j <= MOST_DEPTH; j++) {
                past[j] = left % (rock.notes + 1);
                left /= rock.notes + 1;
            }
            judge.before[0] = past[1] == 0 ? SILENT : past[1] - 1;
            for (int e = 0; e < rock.echoes; e++) {
                judge.now[1 + e] = rock.givenBack(e, notePast(rock.late[e]));
                judge.before[1 + e] = rock.givenBack(e, notePast(rock.late[e] + 1));
            }
        }

        /** Without a pair nobody asks for the BEAT that lies beyond DEPTH. */
        private int notePast(int ago) {
            return ago < 1 || ago > depth || ago > MOST_DEPTH ? NONE : past[ago] - 1;
        }
    }

    /** MANY: how many tunes lead to each state, BEAT by BEAT. */
    private static final class Tally {
        private static final int LIMBS = 4;
        private static final long NINE_DIGITS = 1000000000L;
        private static final long LIMB = 1000000000000000000L;

        private final State state;
        private final Tables tables;
        private final long[] answers = new long[LIMBS * (TABLE_BEATS + 1)];
        private long[] row;
        private long[] next;
        // How many BEATS the row stands for; NONE if it is not made yet.
        private int beats = NONE;
        private int limbs = LIMBS;

        Tally(State state, Tables tables) {
            this.state = state;
            this.tables = tables;
        }

        void forget() {
            beats = NONE;
        }

        long nineDigits(int n, int part) {
            if (beats == NONE) {
                begin();
            }
            for (int beat = 0; beat < TABLE_BEATS && beats < n; beat++) {
                goOn();
            }
            int at = LIMBS * n + part / 2;
            if (at < 0 || at >= answers.length) {
                return NONE;
            }
            return part % 2 == 0 ? answers[at] % NINE_DIGITS : answers[at] / NINE_DIGITS;
        }

        private void begin() {
            int need = LIMBS * tables.size;
            if (row == null || row.length < need) {
                int room = roomFor(need, row == null ? 0 : row.length, LIMBS * MOST_STATES);
                row = new long[room];
                next = new long[room];
            }
            Arrays.fill(row, 0, need, 0L);
            row[0] = 1;
            beats = 0;
        }

        private void goOn() {
            Arrays.fill(next, 0, LIMBS * tables.size, 0L);
            // Twelve notes give less than 108 digits in 100 BEATS, a limb holds 18.
            limbs = Math.min(LIMBS, 1 + (beats + 1) * 108 / 1800);
            int low = state.lowDigit(beats);
            int high = state.highDigit(beats);
            for (int s = 0; s < tables.size; s++) {
                int digits = isEmptyAt(s) ? 0 : tables.allowedIn(beats, s);
                for (int digit = low; digit <= high && digits != 0; digit++) {
                    if ((digits >> digit & 1) == 1) {
                        add(next, LIMBS * tables.after(s, digit), s);
                    }
                }
            }
            long[] old = row;
            row = next;
            next = old;
            beats++;
            sumUp();
        }

        private void sumUp() {
            int at = LIMBS * beats;
            Arrays.fill(answers, at, at + LIMBS, 0L);
            for (int s = 0; s < tables.size; s++) {
                if (!isEmptyAt(s) && tables.endsWell(beats, s)) {
                    add(answers, at, s);
                }
            }
        }

        private boolean isEmptyAt(int s) {
            int at = LIMBS * s;
            return (row[at] | row[at + 1] | row[at + 2] | row[at + 3]) == 0;
        }

        private void add(long[] to, int at, int s) {
            long carry = 0;
            for (int i = 0; i < limbs; i++) {
                long sum = to[at + i] + row[LIMBS * s + i] + carry;
                carry = sum >= LIMB ? 1 : 0;
                to[at + i] = carry == 1 ? sum - LIMB : sum;
            }
        }
    }

    /** LEAST and MEND: the cheapest way through the TABLES, of equal ones the first by its notes. */
    private static final class Way {
        private static final int NO_WAY = 1000000;
        // What is kept of a state in a BEAT: 0 if no way leads there, 1 if none leads on, 2 + the digit.
        private static final int REACHED = 1;
        private static final int CHOSEN = 2;
        private static final int IN_A_LONG = 16;
        private static final int MOST_KEPT = (TABLE_BEATS + 1) * MOST_STATES / IN_A_LONG + 1;

        private final State state;
        private final Tables tables;
        private final int[] low = new int[TABLE_BEATS];
        private final int[] high = new int[TABLE_BEATS];
        private final int[] wanted = new int[TABLE_BEATS];
        private final int[] leastRow = new int[TABLE_BEATS];
        private final int[] mendRow = new int[TABLE_BEATS];
        private boolean byMotion;
        // Of which length LEAST is known, 0 for none.
        private int leastLength;
        private int leastCost;
        private boolean mendKnown;
        private int mendCost;
        private long[] kept;
        private int[] cost;
        private int[] costBehind;

        Way(State state, Tables tables) {
            this.state = state;
            this.tables = tables;
        }

        void forgetLeast() {
            leastLength = 0;
        }

        void forgetMend() {
            mendKnown = false;
        }

        int leastMotion(int n) {
            if (leastLength != n) {
                byMotion = true;
                for (int beat = 0; beat < n && beat < TABLE_BEATS; beat++) {
                    low[beat] = state.lowDigit(beat);
                    high[beat] = state.highDigit(beat);
                }
                leastCost = find(n, leastRow);
                leastLength = n;
            }
            return leastCost;
        }

        int leastNote(int beat) {
            return beat < 0 || beat >= TABLE_BEATS ? NO_BEAT : leastRow[beat];
        }

        int fewestChanges() {
            if (!mendKnown) {
                byMotion = false;
                for (int beat = 0; beat < state.length && beat < TABLE_BEATS; beat++) {
                    boolean rests = state.sung(beat) < 0;
                    wanted[beat] = state.sung(beat) + 1;
                    low[beat] = rests ? 0 : 1;
                    high[beat] = rests ? 0 : state.rock.notes;
                }
                mendCost = find(state.length, mendRow);
                mendKnown = true;
            }
            return mendCost;
        }

        int mendedNote(int beat) {
            return beat < 0 || beat >= TABLE_BEATS ? NO_BEAT : mendRow[beat];
        }

        private int find(int n, int[] found) {
            if (n < 1 || n > TABLE_BEATS) {
                return NONE;
            }
            makeRows((n + 1) * tables.size / IN_A_LONG + 1);
            keep(0, 0, REACHED);
            for (int beat = 0; beat < n; beat++) {
                reachFrom(beat);
            }
            for (int s = 0; s < tables.size; s++) {
                boolean good = keptOf(n, s) != 0 && tables.endsWell(n, s);
                costBehind[s] = good ? 0 : NO_WAY;
            }
            for (int beat = n - 1; beat >= 0; beat--) {
                chooseIn(beat);
            }
            if (costBehind[0] >= NO_WAY) {
                return NONE;
            }
            follow(n, found);
            return costBehind[0];
        }

        private void makeRows(int need) {
            if (kept == null || kept.length < need) {
                kept = new long[roomFor(need, kept == null ? 0 : kept.length, MOST_KEPT)];
            }
            if (cost == null || cost.length < tables.size) {
                int room = roomFor(tables.size, cost == null ? 0 : cost.length, MOST_STATES);
                cost = new int[room];
                costBehind = new int[room];
            }
            Arrays.fill(kept, 0, need, 0L);
        }

        private void reachFrom(int beat) {
            for (int s = 0; s < tables.size; s++) {
                int digits = keptOf(beat, s) == 0 ? 0 : tables.allowedIn(beat, s);
                for (int digit = low[beat]; digit <= high[beat] && digits != 0; digit++) {
                    if ((digits >> digit & 1) == 1) {
                        keep(beat + 1, tables.after(s, digit), REACHED);
                    }
                }
            }
        }

        private void chooseIn(int beat) {
            for (int s = 0; s < tables.size; s++) {
                cost[s] = NO_WAY;
                if (keptOf(beat, s) != 0) {
                    choose(beat, s);
                }
            }
            int[] old = costBehind;
            costBehind = cost;
            cost = old;
        }

        private void choose(int beat, int s) {
            int chosen = REACHED;
            int digits = tables.allowedIn(beat, s);
            for (int digit = low[beat]; digit <= high[beat]; digit++) {
                if ((digits >> digit & 1) == 0) {
                    continue;
                }
                int whole = costBehind[tables.after(s, digit)] + costOf(beat, s, digit);
                if (whole < cost[s]) {
                    cost[s] = whole;
                    chosen = CHOSEN + digit;
                }
            }
            keep(beat, s, chosen);
        }

        private int costOf(int beat, int s, int digit) {
            if (!byMotion) {
                return digit == wanted[beat] ? 0 : 1;
            }
            int last = tables.lastDigit(s);
            return last == 0 || digit == 0 ? 0 : Math.abs(digit - last);
        }

        private void follow(int n, int[] found) {
            int s = 0;
            for (int beat = 0; beat < n; beat++) {
                int digit = Math.max(0, keptOf(beat, s) - CHOSEN);
                found[beat] = digit - 1;
                s = tables.after(s, digit);
            }
        }

        private int keptOf(int beat, int s) {
            int at = beat * tables.size + s;
            return (int) (kept[at / IN_A_LONG] >> 4 * (at % IN_A_LONG)) & 15;
        }

        private void keep(int beat, int s, int what) {
            int at = beat * tables.size + s;
            int shift = 4 * (at % IN_A_LONG);
            long others = kept[at / IN_A_LONG] & ~(15L << shift);
            kept[at / IN_A_LONG] = others | (long) what << shift;
        }
    }

    /**
     * ENDLESS and LONGEST: a search from the time before BEAT 0 on, least notes first. A place is a
     * state and how far its BEAT lies behind a strong one. The first place that comes again on the
     * way closes a circle, on which the row can go on for ever.
     */
    private static final class Forever {
        private static final int ROW = 1000;
        // A step of the way is 16 times the place and the digit that leads on from it.
        private static final int DIGITS = 16;

        private final Rock rock;
        private final Tables tables;
        private final int[] row = new int[ROW];
        private boolean known;
        private boolean isEndless;
        private int most;
        private int size = 1;
        private int[] way;
        private int wayLength;
        // Of each place: 0 not seen; 1 + where on the way; -1 less the BEATS that can follow.
        private int[] seen;

        Forever(Rock rock, Tables tables) {
            this.rock = rock;
            this.tables = tables;
        }

        void forget() {
            known = false;
        }

        int noteAt(int i) {
            search();
            return isEndless && i >= 0 && i < ROW ? row[i] : NONE;
        }

        int mostBeats() {
            search();
            return isEndless ? NONE : most;
        }

        private void search() {
            if (known) {
                return;
            }
            known = true;
            isEndless = false;
            size = Math.max(1, tables.size);
            int places = rock.meter * size;
            makeRows(places);
            wayLength = 0;
            enter(0);
            int steps = places * DIGITS;
            for (int i = 0; i < steps && wayLength > 0 && !isEndless; i++) {
                tryNext();
            }
        }

        private void makeRows(int places) {
            if (seen == null || seen.length < places) {
                int room = roomFor(places, seen == null ? 0 : seen.length, MOST_METER * MOST_STATES);
                seen = new int[room];
                way = new int[room];
            }
            Arrays.fill(seen, 0, places, 0);
        }

        private void enter(int place) {
            if (wayLength < way.length) {
                way[wayLength] = place * DIGITS;
                wayLength++;
                seen[place] = wayLength;
            }
        }

        private void tryNext() {
            way[wayLength - 1]++;
            int place = way[wayLength - 1] / DIGITS;
            int digit = way[wayLength - 1] % DIGITS;
            if (digit > rock.notes) {
                leave(place);
            } else if (leadsOn(place, digit)) {
                int to = placeAfter(place, digit);
                if (seen[to] == 0) {
                    enter(to);
                } else if (seen[to] > 0) {
                    close(seen[to] - 1);
                }
            }
        }

        private void leave(int place) {
            int beats = 0;
            for (int digit = 1; digit <= rock.notes; digit++) {
                if (leadsOn(place, digit)) {
                    beats = Math.max(beats, -seen[placeAfter(place, digit)]);
                }
            }
            seen[place] = -1 - beats;
            most = beats;
            wayLength--;
        }

        private void close(int from) {
            int circle = wayLength - from;
            if (circle < 1) {
                return;
            }
            isEndless = true;
            for (int i = 0; i < ROW; i++) {
                int at = i < wayLength ? i : from + (i - from) % circle;
                row[i] = way[at] % DIGITS - 1;
            }
        }

        private boolean leadsOn(int place, int digit) {
            return (tables.allowedIn(place / size, place % size) >> digit & 1) == 1;
        }

        private int placeAfter(int place, int digit) {
            int phase = (place / size + 1) % rock.meter;
            return phase * size + tables.after(place % size, digit);
        }
    }

    /**
     * ROUNDS: a row of k notes is a number, its first note the highest digit. Whether a row keeps
     * the law in its first BEAT is found once; its other BEATS are the first ones of turned rows.
     */
    private static final class Circle {
        private static final int MOST_ROWS = 20000;
        private static final int MOST_LENGTH = 8;

        private final Rock rock;
        private final Judge judge;
        private final int[] many = new int[MOST_LENGTH + 1];
        private final int[] first = new int[MOST_LENGTH + 1];
        private final int[] digits = new int[MOST_LENGTH];
        // Of each row: bit 0 if it keeps the law in a weak BEAT, bit 1 if in a strong one.
        private byte[] kept;

        Circle(Rock rock, Judge judge) {
            this.rock = rock;
            this.judge = judge;
        }

        void forget() {
            Arrays.fill(many, NONE);
        }

        boolean canTell(int k) {
            return k >= 1 && k <= MOST_LENGTH && rowsOf(k) <= MOST_ROWS && rock.isPlain();
        }

        /** How many ROUNDS there are of a length that it can tell of. */
        int howMany(int k) {
            if (k < 1 || k > MOST_LENGTH) {
                return NONE;
            }
            if (many[k] == NONE) {
                int rows = Math.min(rowsOf(k), MOST_ROWS);
                makeRows(rows);
                for (int row = 0; row < rows; row++) {
                    layVoices(row, k);
                    kept[row] = (byte) (2 * keeps(1) + keeps(0));
                }
                many[k] = 0;
                for (int row = 0; row < rows; row++) {
                    if (isRound(row, k, rows)) {
                        first[k] = many[k] == 0 ? row : first[k];
                        many[k]++;
                    }
                }
            }
            return many[k];
        }

        int noteOfFirst(int k, int i) {
            if (k < 1 || k > MOST_LENGTH || i < 0 || i >= k) {
                return NONE;
            }
            return first[k] / rowsOf(k - 1 - i) % rock.notes;
        }

        private void makeRows(int rows) {
            if (kept == null || kept.length < rows) {
                kept = new byte[roomFor(rows, kept == null ? 0 : kept.length, MOST_ROWS)];
            }
        }

        private int rowsOf(int k) {
            int rows = 1;
            for (int i = 0; i < k && rows <= MOST_ROWS; i++) {
                rows *= rock.notes;
            }
            return rows;
        }

        private boolean isRound(int row, int k, int rows) {
            int common = commonDivisor(k, rock.meter);
            int top = Math.max(1, rows / rock.notes);
            int turned = row;
            for (int beat = 0; beat < k; beat++) {
                boolean isStrong = beat % common == 0;
                boolean isWeak = !isStrong || rock.meter > common;
                int needed = (isStrong ? 2 : 0) + (isWeak ? 1 : 0);
                if ((kept[turned] & needed) != needed) {
                    return false;
                }
                turned = turned % top * rock.notes + turned / top;
            }
            return true;
        }

        private static int commonDivisor(int a, int b) {
            int common = 1;
            for (int d = 2; d <= a && d <= b; d++) {
                common = a % d == 0 && b % d == 0 ? d : common;
            }
            return common;
        }

        private int keeps(int strong) {
            return judge.firstFault(strong, 1 + rock.echoes, true) == NONE ? 1 : 0;
        }

        private void layVoices(int row, int k) {
            int left = row;
            for (int i = k - 1; i >= 0; i--) {
                digits[i] = left % rock.notes;
                left /= rock.notes;
            }
            judge.now[0] = digits[0];
            judge.before[0] = digits[k - 1];
            for (int e = 0; e < rock.echoes; e++) {
                int late = rock.late[e];
                judge.now[1 + e] = rock.givenBack(e, digits[Math.floorMod(-late, k)]);
                judge.before[1 + e] = rock.givenBack(e, digits[Math.floorMod(-late - 1, k)]);
            }
        }
    }
}
