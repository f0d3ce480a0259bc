import java.math.BigInteger;

/**
 * The sentences of the document's Terms that give a bound: the last that is taken, the first that is
 * refused, the empty and the full. Each method has its sentence at its head.
 */
public final class TermBoundsTest extends Checks {
    private static final String[] SHIFTS = {"up", "down", "turn"};

    // ---------------------------------------------------------------- the TAPE

    /** "The TAPE has at most 1,000 signs, 10 and 32 .. 126". */
    private static void tapeSigns() {
        EchoTune high = new EchoTune();
        EchoTune low = new EchoTune();
        int signs = 0;
        for (int sign = 0; sign < 256; sign++) {
            signs += sign == 10 || sign >= 32 && sign <= 126 ? 1 : 0;
            due("the highest byte " + sign, high.feed((long) sign << 56, 0, 0), signs);
            due("the lowest byte " + sign, low.feed(0, 0, sign), signs);
        }
        due("signs left out leave no gap", cliff(new EchoTune(), "no\0t\u001f\u007fes\t\u0080 \u00ff3;"), 0);
    }

    /** "The TAPE has at most 1,000 signs". */
    private static void tapeFull() {
        String inner = "law 1" + times("+1", 494) + times(" ", 6);
        EchoTune x = new EchoTune();
        due("999 signs", tell(x, inner), 999);
        due("the 1,000th", tell(x, ";"), 1000);
        due("the 1,001st", tell(x, "%"), 1000);
        due("count(8)", x.count(8), 1000);
        due("1,000 signs are read", x.cliff(), 0);
        due("count(3)", x.count(3), 1);
        due("1,000 of 1,001 signs", tell(x, inner + " ;"), 1000);
        due("the end is at 1,000", x.cliff(), 1 + 16 * 1000);
        due("a full draft", draft(x, times(" ", 999) + "3"), 0);
        due("its only note", x.note(0), 3);
        due("one blank more", draft(x, times(" ", 1000) + "3"), 0);
        due("no note is left", x.count(6), 0);
        due("a fault at the last sign", draft(x, times(" ", 999) + "7"), 4 + 16 * 999);
    }

    /** "what reads it takes it: it is empty then". */
    private static void tapeTaken() {
        EchoTune x = new EchoTune();
        String[] texts = {"notes 3;", "notes", "", "law 1 2"};
        for (String text : texts) {
            tell(x, text);
            x.cliff();
            due("count(8) behind the cliff '" + text + "'", x.count(8), 0);
            due("a second reading", x.cliff(), 0);
            due("notes without", x.count(0), 7);
        }
        String[] drafts = {"0 1", "0 9", "", "0 ("};
        for (String text : drafts) {
            tell(x, text);
            x.draft();
            due("count(8) behind the draft '" + text + "'", x.count(8), 0);
            due("a second reading", x.draft(), 0);
            due("the TUNE", x.count(6), 0);
        }
        due("what comes then begins at 0", draft(x, " 9"), 4 + 16);
    }

    // ---------------------------------------------------------------- TOKENS

    /** "WORDS (letters a .. z, 8 at most) ... a longer WORD or NUMBER, too, at its first sign". */
    private static void words() {
        cliffFault(" abcdefgh", 1, 1);
        cliffFault(" abcdefghi", 1, 1);
        cliffFault("law abcdefghi", 1, 4);
        cliffFault("notesnotes 3", 1, 0);
        cliffFault("lawstrong;", 1, 0);
        cliffFault("law strongmove;", 1, 4);
        cliffFault("notesnot 3", 1, 0);
        cliffFault("Law 1;", 1, 0);
        cliffFault("lAw 1;", 1, 0);
        cliffFault("law stronG;", 1, 4);
        draftFault("0 restrestrest", 1, 2);
        draftFault("restrest", 1, 0);
        String[] all = {"note", "notess", "mete", "meterr", "ech", "echos", "la", "laws", "lea", "leaps", "pai", "pairs"};
        for (String near : all) {
            cliffFault(near + " 3;", 1, 0);
        }
        String[] lines = {"notes", "meter", "echo", "law", "leap", "pair"};
        for (String word : lines) {
            otherLetters(word, "", " 3;");
        }
        for (String word : new String[] {"strong", "apart", "was", "move", "other", "not"}) {
            otherLetters(word, "pair ", " 1;");
        }
        for (String word : new String[] {"rest", "again", "up", "down"}) {
            for (int i = 0; i < word.length(); i++) {
                draftFault(word.substring(0, i) + "x" + word.substring(i + 1) + " 1(2)", 1, 0);
            }
        }
        String[] facts = {"stron", "strongs", "apar", "aparts", "wa", "wass", "mov", "moves", "othe", "others", "no", "nota"};
        for (String near : facts) {
            cliffFault("pair " + near, 1, 5);
        }
        String[] items = {"res", "resta", "agai", "agains", "u", "ups", "dow", "downs"};
        for (String near : items) {
            draftFault(near + " 3(", 1, 0);
        }
    }

    private static void otherLetters(String word, String ahead, String behind) {
        for (int i = 0; i < word.length(); i++) {
            cliffFault(ahead + word.substring(0, i) + "x" + word.substring(i + 1) + behind, 1, ahead.length());
        }
    }

    /** "NUMBERS (1 to 4 digits; a letter may stand right behind)". */
    private static void numbers() {
        due("9999", on("leap 9999=9998+1;", "0 0").clashes(), 0);
        due("0000", on("leap 0000;", "0 0").clashes(), 1);
        cliffFault("leap 10000;", 1, 5);
        cliffFault("leap 00001;", 1, 5);
        cliffFault("notes 00003;", 1, 6);
        due("4 digits", on("notes 0003;").count(0), 3);
        draftFault("00000", 1, 0);
        due("0006", on("", "0006").note(0), 6);
        due("as long as can be", on("notes 12;").count(0), 12);
        due("11 is one note", on("notes 12;", "11").count(6), 1);
        due("1 1 are two", on("notes 12;", "1 1").count(6), 2);
        due("letters right behind", on("notes3;meter2;echo late 1up 2half back 4;law 1and 2or 3;").count(2), 1);
        due("letters right behind", on("", "0rest 1up 1(2)3again 2(4rest)").count(6), 9);
        draftFault("0resta", 1, 1);
        draftFault("1234x", 4, 0);
        draftFault("12345x", 1, 0);
        // 40, 41 and 59 are the bytes of ( ) and ; as well.
        for (int sign = 40; sign <= 61; sign++) {
            draftFault("again 1(0 00" + sign + "0", 1, 10);
            draftFault("again 1(0 00" + sign, 4, 10);
            draftFault("again 1 00" + sign, 1, 8);
            cliffFault("law (1 00" + sign + "0", 1, 7);
            cliffFault("law 1 00" + sign, 1, 6);
        }
        draftFault("again 1(abcdefghi)", 1, 8);
        draftFault("again 1(0)abcdefghi", 1, 10);
        cliffFault("law 1;abcdefghi", 1, 6);
        cliffFault("law (1)abcdefghi", 1, 7);
    }

    /** "the signs ( ) < = + - * ;  All else ... is none"; "blanks (10, 32) between where one likes". */
    private static void signs() {
        for (char sign = 33; sign <= 126; sign++) {
            boolean digit = sign >= '0' && sign <= '9';
            cliffFault("" + sign, 1, 0);
            due("draft '" + sign + "'", draft(new EchoTune(), "" + sign), digit ? sign > '6' ? 4 : 0 : 1);
            boolean joint = "<=+-*".indexOf(sign) >= 0;
            int due = sign == ';' ? 0 : joint ? 1 + 16 * 7 : 1 + 16 * 6;
            due("cliff 'law 1 " + sign + "'", cliff(new EchoTune(), "law 1 " + sign), due);
            due("cliff 'law " + sign + "'", cliff(new EchoTune(), "law " + sign),
                digit || sign == '(' ? 1 + 16 * 5 : 1 + 16 * 4);
        }
        due("no blanks", on("notes3;meter2;law(1+2)*3<4;").count(3), 1);
        due("many blanks", on(" \n notes \n\n 3\n;\nmeter\n2 ;law ( 1 + 2\n)*3 <\n4 ; \n ").count(3), 1);
        due("many blanks", on("", "\n again\n2\n(\n 3 rest\n)\n").count(6), 4);
        cliffFault("notes 1 2;", 4, 6);
        cliffFault("notes 3 2;", 1, 8);
        cliffFault("no tes 3;", 1, 0);
        cliffFault("law 1 < = 2;", 1, 8);
    }

    // ---------------------------------------------------------------- the CLIFF

    /** "notes 2 to 12 (7 without), meter 1 to 8 (4 without), once each". */
    private static void notesAndMeter() {
        for (int n = 0; n <= 25; n++) {
            boolean fits = n >= 2 && n <= 12;
            EchoTune x = new EchoTune();
            due("notes " + n, cliff(x, "notes " + n + ";"), fits ? 0 : 4 + 16 * 6);
            due("count(0)", x.count(0), fits ? n : 7);
            due("count(1)", x.count(1), 4);
            fits = n >= 1 && n <= 8;
            due("meter " + n, cliff(x, "meter " + n + ";"), fits ? 0 : 4 + 16 * 6);
            due("count(1)", x.count(1), fits ? n : 4);
        }
        cliffFault("notes 9999;", 4, 6);
        cliffFault("meter 9999;", 4, 6);
        EchoTune x = on("notes 12;meter 8;");
        due("the next one", cliff(x, "law 1;"), 0);
        due("7 without", x.count(0), 7);
        due("4 without", x.count(1), 4);
        cliffFault("notes 3;meter 3;notes 3;", 3, 16);
        cliffFault("meter 3;notes 3;meter 3;", 3, 16);
        cliffFault("notes 3;law 1;notes 99;", 3, 14);
        cliffFault("meter 3;meter", 3, 8);
        due("once each anew", cliff(x, "notes 3;meter 3;"), 0);
        due("once each anew", cliff(x, "meter 2;notes 2;"), 0);
    }

    /** "echo, 8 at most: late 1 to 64; SHIFT is up N down N turn N (0 to 24); ... back N (1 to 200)". */
    private static void echoBounds() {
        for (int n = 0; n <= 70; n++) {
            boolean fits = n >= 1 && n <= 64;
            due("late " + n, cliff(new EchoTune(), "echo late " + n + " up 1;"), fits ? 0 : 4 + 16 * 10);
        }
        for (String shift : SHIFTS) {
            for (int n = 0; n <= 30; n++) {
                due(shift + " " + n, cliff(new EchoTune(), "echo late 1 " + shift + " " + n + ";"),
                    n <= 24 ? 0 : 4 + 16 * (13 + shift.length()));
            }
        }
        for (int n = 0; n <= 210; n++) {
            boolean fits = n >= 1 && n <= 200;
            due("back " + n, cliff(new EchoTune(), "echo late 1 up 1 back " + n + ";"), fits ? 0 : 4 + 16 * 22);
        }
        String[] paces = {"", " twice", " half"};
        for (String pace : paces) {
            String told = "echo late 1 up 1" + pace;
            due(told, cliff(new EchoTune(), told + ";"), 0);
            due(told + " back", cliff(new EchoTune(), told + " back 7;"), 0);
            cliffFault(told + " back ;", 1, told.length() + 6);
            cliffFault(told + " back 7 back 7;", 1, told.length() + 8);
            cliffFault(told + " back 7 twice;", 1, told.length() + 8);
            cliffFault(told + " up 1;", 1, told.length() + 1);
            cliffFault(told, 1, told.length());
        }
        cliffFault("echo late 1 twice;", 1, 12);
        cliffFault("echo up 1;", 1, 5);
        cliffFault("echo late 9999 up 1;", 4, 10);
    }

    /** "echo, 8 at most", "law: 4 at most; leap, pair: 2 at most". */
    private static void lineBounds() {
        String echo = "echo late 1 up 1;";
        String full = times(echo, 8) + times("law 1;", 4) + times("leap 1;", 2) + times("pair 1;", 2) + "notes 2;meter 1;";
        String turned = "meter 1;" + times("pair 1;law 1;leap 1;law 1;", 2) + "notes 2;" + times(echo, 8);
        for (String text : new String[] {full, turned}) {
            EchoTune x = on(text);
            int[] want = {2, 1, 8, 4, 2, 2};
            for (int i = 0; i < want.length; i++) {
                due("count(" + i + ")", x.count(i), want[i]);
            }
            for (String more : new String[] {"echo", "law", "leap", "pair"}) {
                cliffFault(text + more + " ;", 5, text.length());
            }
            cliffFault(text + "notes", 3, text.length());
            cliffFault(text + "meter", 3, text.length());
        }
        String[] lines = {"echo", "law", "leap", "pair"};
        int[] most = {8, 4, 2, 2};
        for (int i = 0; i < lines.length; i++) {
            String line = i == 0 ? echo : lines[i] + " 1;";
            for (int many = 0; many <= most[i]; many++) {
                due(many + " of " + line, on(times(line, many)).count(2 + i), many);
            }
            cliffFault(times(line, most[i] + 1), 5, most[i] * line.length());
        }
    }

    /** "no PART lies within 5 of not and ( )". */
    private static void partBounds() {
        for (int kinds = 0; kinds < 32; kinds++) {
            StringBuilder open = new StringBuilder("law ");
            StringBuilder close = new StringBuilder();
            for (int i = 0; i < 4; i++) {
                open.append((kinds >> i & 1) == 0 ? "not " : "( ");
                close.append((kinds >> i & 1) == 0 ? "" : " )");
            }
            due(open + "1" + close, cliff(new EchoTune(), open + "1" + close + ";"), 0);
            due(open + "apart" + close, cliff(new EchoTune(), open + "apart" + close + ";"), 0);
            open.append((kinds >> 4 & 1) == 0 ? "not " : "( ");
            int place = open.length();
            String[] parts = {"1", "apart", "strong", "not", "("};
            for (String part : parts) {
                cliffFault(open + part, 5, place);
            }
            String[] none = {")", ";", "and", "move", "12345", "+", "$", "", "law"};
            for (String other : none) {
                cliffFault(open + other, 1, place);
            }
        }
        due("side by side", cliff(new EchoTune(), "law ((((1))))+((((1))))*not not not not 1<not(not(1));"), 0);
        cliffFault("law ((((1)+(1)*(2=(3", 5, 19);
        cliffFault("law not not not not 1 + not not not not not 1", 5, 44);
        due("each line anew", cliff(new EchoTune(), times("law not(not(1));", 4) + times("pair ((((1))));", 2)), 0);
    }

    /** "Facts: strong; in law also apart; in leap also move; in pair also apart, was, move, other". */
    private static void factBounds() {
        String[] facts = {"strong", "apart", "was", "move", "other"};
        String[] lines = {"law ", "leap ", "pair "};
        String[] told = {"strong apart", "strong move", "strong apart was move other"};
        for (int i = 0; i < lines.length; i++) {
            for (String fact : facts) {
                int due = told[i].contains(fact) ? 0 : 1 + 16 * lines[i].length();
                due(lines[i] + fact, cliff(new EchoTune(), lines[i] + fact + ";"), due);
            }
        }
    }

    /** "Of not, and, or, < and = comes 1 or 0; what is not 0 is so; ints wrap"; "from the left". */
    private static void worths() {
        String[] kept = {"1", "9999", "0-1", "not 0", "not(1-1)", "(not 7)=0", "(5 and 6)=1", "(0 or 6)=1", "(0-3 and 1)=1",
            "(5 and 0)=0", "(0 and 5)=0", "(0 or 0)=0", "(1<2)=1", "(2<2)=0", "(2=2)=1", "(2=3)=0", "0-1<0", "not 0<2",
            "0 and 0 or 1", "1<2 and 2<3", "3-2-1=0", "2*3+4*5=26", "2-3*4=0-10", "1+1=2", "not 3+1", "(not 3+1)=1",
            "256*256*128*256<0", "256*256*256*256=0", "256*256*128*256-1=256*256*128*256-1", "0-256*256*128*256<0",
            "0<256*256*128*256-1"};
        for (String e : kept) {
            due("leap " + e, on("leap " + e + ";", "0 0").clashes(), 0);
        }
        String[] broken = {"0", "0000", "not 1", "not 9999", "not(0-1)", "1-1", "0*9999", "1 and 0", "0 or 0", "2<2", "3<2",
            "2=3", "1 or 1 and 0", "0-1<0-1", "(1<2)=2", "(5 and 6)=6", "256*256*256*256", "256*256*128*256-1<0"};
        for (String e : broken) {
            due("leap " + e, on("leap " + e + ";", "0 0").clashes(), 1);
        }
    }

    // ---------------------------------------------------------------- the DRAFT

    /** "again N ( ITEMS ) (so often ..., 1 to 99); up N ( ITEMS ), down N ( ITEMS ) (0 to 24; ...)". */
    private static void itemBounds() {
        for (int n = 0; n <= 110; n++) {
            boolean fits = n >= 1 && n <= 99;
            EchoTune x = new EchoTune();
            due("again " + n, draft(x, "again " + n + "(rest)"), fits ? 0 : 4 + 16 * 6);
            due("count(6)", x.count(6), fits ? n : 0);
        }
        for (int n = 0; n <= 30; n++) {
            due("up " + n, draft(new EchoTune(), "up " + n + "(rest)"), n <= 24 ? 0 : 4 + 16 * 3);
            due("down " + n, draft(new EchoTune(), "down " + n + "(rest)"), n <= 24 ? 0 : 4 + 16 * 5);
        }
        String[] groups = {"again 1", "up 1", "down 1"};
        for (String group : groups) {
            due(group + "()", draft(new EchoTune(), group + "()"), 0);
            cliffFault(group + "()", 1, 0);
            draftFault(group, 1, group.length());
            draftFault(group + ")", 1, group.length());
            draftFault(group + "(", 1, group.length() + 1);
            draftFault(group + " 1(", 1, group.length() + 1);
            draftFault(group + "(rest", 1, group.length() + 5);
            draftFault(group + "())", 1, group.length() + 2);
            String word = group.substring(0, group.indexOf(' '));
            draftFault(word, 1, word.length());
            draftFault(word + "(", 1, word.length());
            draftFault(word + " 9999(", 4, word.length() + 1);
        }
        EchoTune x = on("", "");
        due("none or more: none", x.count(6), 0);
    }

    /** "no ITEM lies within 5 of ( )"; "an ITEM within 5 others". */
    private static void itemNesting() {
        String[] groups = {"again 1(", "up 0(", "down 0("};
        for (int kinds = 0; kinds < 243; kinds++) {
            StringBuilder open = new StringBuilder();
            int left = kinds;
            for (int i = 0; i < 4; i++) {
                open.append(groups[left % 3]);
                left /= 3;
            }
            due(open + "3", draft(new EchoTune(), open + "3 rest))))"), 0);
            open.append(groups[left % 3]);
            int place = open.length();
            due(open + ")", draft(new EchoTune(), open + ")))))3"), 0);
            String[] items = {"0", "6", "rest", "again", "up", "down"};
            for (String item : items) {
                draftFault(open + item, 5, place);
            }
            draftFault(open + "7", 4, place);
            draftFault(open + "(", 1, place);
            draftFault(open + "", 1, place);
        }
    }

    /** "a note that, as it is led at that place the first time, is below 0 or not below the notes". */
    private static void ledNotes() {
        for (int notes = 2; notes <= 12; notes++) {
            EchoTune x = on("notes " + notes + ";");
            due("the last note", draft(x, "" + (notes - 1)), 0);
            due("one more", draft(x, "" + notes), 4);
            due("up to the last", draft(x, "up " + (notes - 1) + "(0)"), 0);
            due("note(0)", x.note(0), notes - 1);
            due("up by one more", draft(x, "up " + notes + "(0)"), 4 + 16 * (notes > 9 ? 6 : 5));
            due("down to 0", draft(x, "down 24(24)"), 0);
            due("note(0)", x.note(0), 0);
            due("down below 0", draft(x, "down 24(23)"), 4 + 16 * 8);
            due("down to the last", draft(x, "down 24(" + (23 + notes) + ")"), 0);
            due("note(0)", x.note(0), notes - 1);
            due("down to one more", draft(x, "down 24(" + (24 + notes) + ")"), 4 + 16 * 8);
        }
        draftFault("9999", 4, 0);
        draftFault("up 24(9999", 4, 6);
        EchoTune x = on("", "up 24(up 24(down 24(down 24(0 6))))up 6(0)6");
        due("all together", x.note(0), 0);
        due("all together", x.note(1), 6);
        due("led within alone", x.note(3), 6);
        draftFault("up 6(0)7", 4, 7);
        draftFault("down 6(6)0 7", 4, 11);
        draftFault("up 24(up 24(down 24(down 23(0))6))", 4, 31);
        draftFault("again 2(up 3(3 down 4(0", 4, 22);
        draftFault("again 2(up 3(3 down 4(1 8", 4, 24);
        due("rests are not led", on("", "down 24(rest up 24(rest))").note(1), -1);
        due("led the same each time", on("", "up 2(again 3(again 2(4)))").note(5), 6);
    }

    /** "in a DRAFT ) by which it has more than 200 BEATS, or the NUMBER or rest that is the 201st". */
    private static void draftFull() {
        due("200 notes", on("", times("0 ", 200)).count(6), 200);
        due("200 rests", on("", times("rest ", 200)).count(6), 200);
        draftFault(times("0 ", 201), 5, 400);
        draftFault(times("0 ", 200) + "rest", 5, 400);
        draftFault(times("0 ", 200) + "7", 4, 400);
        draftFault(times("0 ", 200) + ";", 1, 400);
        String most = "again 2(again 99(0)rest)";
        due("200 by )", on("", most).count(6), 200);
        String[] more = {"0", "rest", "again 1(rest", "up 0(rest", "down 1(1"};
        for (String item : more) {
            String head = item.contains("(") ? item.substring(0, item.indexOf('(') + 1) : "";
            draftFault(most + item, 5, most.length() + head.length());
        }
        due("empty groups", on("", most + "again 99()up 3(down 2())").count(6), 200);
        draftFault("again 2(again 99(0)rest 0)", 5, 25);
        draftFault("again 3(again 67(0))", 5, 19);
        due("198", on("", "again 3(again 66(0))").count(6), 198);
        draftFault("again 99(0)again 99(0)again 3(0)", 5, 31);
        due("199 and one", on("", "again 99(0)again 99(0)0 again 1(0)").count(6), 200);
        draftFault("again 99(again 99(again 99(again 99(0))))", 5, 38);
        draftFault("again 99(0 1 2)", 5, 14);
        due("a first ) with 200, a last with 200", on("", "up 0(again 50(0 1 2 3))").count(6), 200);
        draftFault("0 again 50(0 1 2 3)", 5, 18);
        EchoTune x = on("", "3 again 2(4 5)");
        due("a fault", draft(x, "again 67(0 1 2)"), 5 + 16 * 14);
        due("the TUNE stays", x.count(6), 5);
        due("the TUNE stays", x.note(4), 5);
    }

    // ---------------------------------------------------------------- FAULTS

    /** "kind + 16 * the place (from 0) of a token, the end being one at the text's length". */
    private static void faultPlaces() {
        cliffFault("notes 3", 1, 7);
        cliffFault("notes 3 \n ", 1, 10);
        cliffFault(" \n%", 1, 2);
        cliffFault("notes 3;   meter 0;", 4, 17);
        cliffFault("law 1 +", 1, 7);
        cliffFault("law not", 1, 7);
        cliffFault("echo", 1, 4);
        cliffFault("echo late", 1, 9);
        cliffFault("echo late 4", 1, 11);
        cliffFault("echo late 4 up", 1, 14);
        cliffFault("echo late 4 up 3", 1, 16);
        cliffFault("echo late 4 up 3 half", 1, 21);
        cliffFault("echo late 4 up 3 half back", 1, 26);
        draftFault("again 2(0\n", 1, 10);
        draftFault("\n\n9", 4, 2);
        due("an empty text has no wrong end", cliff(new EchoTune(), ""), 0);
        due("an empty text has no wrong end", draft(new EchoTune(), ""), 0);
    }

    /** "of the first token from the left that is wrong the least". */
    private static void faultOrder() {
        cliffFault("notes 3 notes", 1, 8);
        cliffFault("notes notes", 1, 6);
        cliffFault("meter 3;meter 9;%", 3, 8);
        cliffFault("meter 9;meter 3;%", 4, 6);
        cliffFault("notes 99;notes 3;", 4, 6);
        cliffFault("% notes 99", 1, 0);
        cliffFault(times("law 1;", 4) + "meter law", 1, 30);
        cliffFault(times("law 1;", 3) + "law law", 1, 22);
        cliffFault(times("leap 1;", 2) + "echo leap", 1, 19);
        cliffFault("notes 3;notes 99;" + times("law 1;", 5), 3, 8);
        draftFault("9 %", 4, 0);
        draftFault("% 9", 1, 0);
        draftFault(times("up 1(", 5) + "6", 4, 25);
        draftFault(times("up 1(", 5) + "1", 5, 25);
        draftFault("again 99(0 0)0 0 9 %", 4, 17);
        draftFault("again 0 %", 4, 6);
        draftFault("up 25 9", 4, 3);
    }

    /** "Without a FAULT it is the CLIFF from then on (the TUNE is empty, nothing is FIXED then)". */
    private static void readWell() {
        EchoTune x = on("notes 5;", "4 3 2");
        x.fix(0, 4);
        x.fix(59, -1);
        due("the draft leaves what is FIXED", draft(x, "1 1"), 0);
        due("count(7)", x.count(7), 2);
        due("the TUNE from then on", x.note(0), 1);
        due("the TUNE from then on", x.note(2), -2);
        due("the same CLIFF anew", cliff(x, "notes 5;"), 0);
        due("count(6)", x.count(6), 0);
        due("count(7)", x.count(7), 0);
        due("note(0)", x.note(0), -2);
        due("many(1, 0)", x.many(1, 0), 5);
        x.sing(0);
        x.fix(0, 0);
        due("the empty text", x.cliff(), 0);
        due("count(6)", x.count(6), 0);
        due("count(7)", x.count(7), 0);
        x.sing(3);
        due("the empty draft", x.draft(), 0);
        due("count(6)", x.count(6), 0);
        // What a text with a FAULT has told so far is gone with it.
        due("a fault", cliff(x, "notes 3;meter 2;echo late 1 up 1 half back 3;law 0;leap 0;pair 0;%"), 1 + 16 * 65);
        due("no fault", cliff(x, "echo late 1 up 1;"), 0);
        int[] want = {7, 4, 1, 0, 0, 0};
        for (int i = 0; i < want.length; i++) {
            due("count(" + i + ")", x.count(i), want[i]);
        }
        due("no PACE, no BACK", x.depth(), 1);
        due("a fault", draft(x, "up 3(0 1 2 %"), 1 + 16 * 11);
        due("no fault", draft(x, "6 0"), 0);
        due("count(6)", x.count(6), 2);
        due("not led", x.note(0), 6);
    }

    // ---------------------------------------------------------------- VOICES

    /** "if t is not below late, there is such a BEAT, below BACK if that is told, and it is no rest". */
    private static void echoEdges() {
        int[] lates = {1, 2, 63, 64};
        for (int late : lates) {
            EchoTune x = on("echo late " + late + " up 2;echo late " + late + " up 2 twice;echo late " + late + " up 2 half;",
                "1 2 rest 4 5");
            int[][] want = {{1, 2, -1, 4, 5}, {1, 1, 2, 2, -1, -1, 4, 4, 5, 5}, {1, -1, 5}};
            for (int e = 0; e < 3; e++) {
                silent(x, 1 + e, late - 1);
                for (int i = 0; i < want[e].length; i++) {
                    if (want[e][i] < 0) {
                        silent(x, 1 + e, late + i);
                    } else {
                        sounds(x, 1 + e, late + i, want[e][i] + 2);
                    }
                }
                silent(x, 1 + e, late + want[e].length);
                silent(x, 1 + e, late + want[e].length + 1);
            }
            due("end()", x.end(), late + 9);
        }
        backEdges();
        fullTune();
    }

    private static void backEdges() {
        for (int back = 1; back <= 7; back++) {
            EchoTune x = on("echo late 3 up 0 back " + back + ";echo late 3 up 0 twice back " + back
                + ";echo late 3 up 0 half back " + back + ";", "0 1 2 3 4 5");
            for (int t = 0; t < 20; t++) {
                int[] source = {t - 3, (t - 3) / 2, 2 * (t - 3)};
                for (int e = 0; e < 3; e++) {
                    if (t >= 3 && source[e] < back && source[e] < 6) {
                        sounds(x, 1 + e, t, source[e]);
                    } else {
                        silent(x, 1 + e, t);
                    }
                }
            }
        }
    }

    private static void fullTune() {
        String all = "again 99(0 1)2 3";
        EchoTune x = on("echo late 64 up 0 twice;echo late 64 up 0;echo late 64 up 0 half;", all);
        sounds(x, 0, 199, 3);
        silent(x, 0, 200);
        sounds(x, 1, 463, 3);
        sounds(x, 1, 462, 3);
        sounds(x, 1, 461, 2);
        silent(x, 1, 464);
        sounds(x, 2, 263, 3);
        silent(x, 2, 264);
        sounds(x, 3, 163, 2);
        silent(x, 3, 164);
        due("end()", x.end(), 463);
        due("back 200", on("echo late 64 up 0 twice back 200;", all).end(), 463);
        due("back 199", on("echo late 64 up 0 twice back 199;", all).end(), 461);
        due("back 1", on("echo late 64 up 0 twice back 1;", "3 3").end(), 65);
    }

    /** "Notes are numbers from 0 on; what the CLIFF gives back may be any number". */
    private static void anyNumber() {
        EchoTune x = on("notes 12;echo late 1 up 24;echo late 1 down 24;echo late 1 turn 0;echo late 1 turn 24;"
            + "echo late 1 down 1;echo late 1 down 2;", "0 11 1 rest");
        int[][] want = {{24, 35, 25}, {-24, -13, -23}, {0, -11, -1}, {48, 37, 47}, {-1, 10, 0}, {-2, 9, -1}};
        for (int e = 0; e < want.length; e++) {
            for (int i = 0; i < 3; i++) {
                sounds(x, 1 + e, 1 + i, want[e][i]);
            }
            silent(x, 1 + e, 4);
        }
        // -1 and -2 sound like all others.
        EchoTune low = on("echo late 5 down 1;echo late 5 down 2;law 0;", "0");
        due("end()", low.end(), 5);
        clash(low, 5, 1, 2, 1, 0);
        due("clashes()", low.clashes(), 1);
        due("the farthest apart", on("echo late 1 turn 24;echo late 1 down 24;law apart=72;", "0").clashes(), 0);
        due("the farthest apart", on("echo late 1 turn 24;echo late 1 down 24;law not(apart=72);", "0").clashes(), 1);
        due("not below 0", on("notes 12;echo late 1 down 11;law apart=22;", "0 11").clashes(), 0);
        due("not below 0", on("notes 12;echo late 1 up 24;law apart=24 and not(apart<0);", "0 0").clashes(), 0);
    }

    /** "A BEAT is strong (1, else 0) if it is 0 modulo the meter". */
    private static void strongBeats() {
        for (int meter = 1; meter <= 8; meter++) {
            EchoTune x = on("meter " + meter + ";leap strong=0;", "again 17(0)");
            due("the first strong one of meter " + meter, x.clash(0), meter);
            due("strong ones of meter " + meter, x.clashes(), 16 / meter);
            x = on("meter " + meter + ";leap strong=1;", "again 17(0)");
            due("the first weak one of meter " + meter, x.clash(0), meter == 1 ? -1 : 1);
            due("weak ones of meter " + meter, x.clashes(), 16 - 16 / meter);
        }
        // BEAT 0 is strong, too: there the choir alone has two voices.
        int seed = 0;
        while (seed < 9999 && (new EchoTune().choir(seed, 2, 2) != 0 || new EchoTune().choir(seed, 2, 3) != 0)) {
            seed++;
        }
        due("BEAT 0 is strong", on("law strong;", "0").choir(seed, 2, 0), 0);
        due("BEAT 0 is strong", on("law not strong;", "0").choir(seed, 2, 1), 0);
    }

    /** "leap, if the singer sings in it and in the BEAT before"; "if both sound in the BEAT before, too: pair". */
    private static void keptEdges() {
        EchoTune x = on("leap 0;");
        String[] none = {"", "0", "0 rest 0 rest 0", "rest 0", "rest rest"};
        for (String text : none) {
            due("draft '" + text + "'", draft(x, text), 0);
            due("no leap in '" + text + "'", x.clashes(), 0);
        }
        due("two in a row", draft(x, "rest 0 0 rest 0 0 0"), 0);
        due("the first", x.clash(0), 2);
        due("all", x.clashes(), 3);
        EchoTune law = on("echo late 2 up 0;law 0;", "0 0");
        due("no two VOICES", law.clashes(), 0);
        law.sing(0);
        due("two VOICES", law.clash(0), 2);
        due("one VOICE behind the end", law.clashes(), 1);
        EchoTune pair = on("echo late 1 up 0;pair 0;", "0 0");
        due("the echo was silent", pair.clashes(), 0);
        pair.sing(0);
        due("both sound, both did", pair.clash(0), 2);
        due("draft", draft(pair, "0 0 rest 0 0 0"), 0);
        due("behind the rest the singer was silent, then the echo", pair.clash(0), 5);
        due("one", pair.clashes(), 1);
        due("echoes behind the end", on("echo late 9 up 0;echo late 9 up 0;pair 0;", "0 0").clash(0), 10);
        due("no VOICES, no law", on("law 0;pair 0;", "0 0 0").clashes(), 0);
    }

    /** "CLASH: the first BEAT ...; then the first VOICES ..., law ahead of pair, then the first line". */
    private static void clashOrder() {
        String three = "echo late 1 up 1;echo late 1 up 3;echo late 1 up 7;";
        // In BEAT 1 of 0 0 the VOICES sound 0, 1, 3, 7: each two are otherwise far apart.
        int[][] voices = {{0, 1, 1}, {0, 2, 3}, {0, 3, 7}, {1, 2, 2}, {1, 3, 6}, {2, 3, 4}};
        for (int i = 0; i < voices.length; i++) {
            for (int j = i; j < voices.length; j++) {
                EchoTune x = on(three + "law not(apart=" + voices[j][2] + ");law not(apart=" + voices[i][2] + ");", "0 0");
                clash(x, 1, voices[i][0], voices[i][1], 1, i == j ? 0 : 1);
                // In BEAT 3, a weak one, the VOICES go on as they were, so a pair can break as well as a law.
                String first = "not(apart=" + voices[i][2] + ")";
                String second = "not(apart=" + voices[j][2] + ")";
                x = on("meter 2;" + three + "law " + second + " or strong;pair " + first + ";", "rest 0 0 0");
                clash(x, 3, voices[i][0], voices[i][1], i == j ? 1 : 2, 0);
                x = on("meter 2;" + three + "pair " + second + ";law " + first + " or strong;", "rest 0 0 0");
                clash(x, 3, voices[i][0], voices[i][1], 1, 0);
            }
        }
        // The pair of VOICES 0 and 1 is ahead of the law of 0 and 2, the law of 0 and 1 ahead of their pair.
        EchoTune mixed = on("echo late 1 up 1;echo late 2 up 3;law not(apart=3);pair not(apart=1);", "0 0 0");
        clash(mixed, 2, 0, 1, 2, 0);
        mixed = on("echo late 1 up 1;echo late 2 up 3;law not(apart=1);pair not(apart=1);", "rest 0 0 0");
        clash(mixed, 2, 0, 1, 1, 0);
        clash(on("leap 1;leap 0;echo late 1 up 0;law 0;pair 0;", "0 0 0"), 1, 0, 0, 0, 1);
        clash(on("leap 0;leap 0;", "0 0 0"), 1, 0, 0, 0, 0);
        clash(on("echo late 1 up 0;pair 1;pair 0;", "0 0 0"), 2, 0, 1, 2, 1);
        for (int line = 0; line < 4; line++) {
            String laws = times("law 1;", line) + times("law 0;", 4 - line);
            clash(on("echo late 1 up 0;" + laws, "0 0"), 1, 0, 1, 1, line);
        }
        clash(on(times("echo late 2 up 0;", 6) + "echo late 1 up 0;echo late 1 up 0;law 0;", "0"), 1, 7, 8, 1, 0);
        clash(on("echo late 64 up 0 twice;echo late 64 up 0 twice;law not strong;meter 8;leap 1;", "rest 0"), -1, -1, -1, -1, -1);
        clash(on("echo late 64 up 0 twice;echo late 64 up 0 twice;law not strong;meter 8;", "0"), 64, 1, 2, 1, 0);
        EchoTune last = on("echo late 64 up 0 twice;echo late 64 up 0 twice;law apart;", "again 99(rest rest)rest 0");
        clash(last, 462, 1, 2, 1, 0);
        due("clashes()", last.clashes(), 2);
    }

    // ---------------------------------------------------------------- TABLES and what they tell

    /** "the notes and 1, to the power of DEPTH, are 4,096 at most"; DEPTH is ... "1 at least". */
    private static void tablesEdges() {
        for (int notes = 2; notes <= 12; notes++) {
            for (int late = 0; late <= 13; late++) {
                String echo = late == 0 ? "" : "echo late " + late + " up 1;echo late 1 up 1;";
                for (int pairs = 0; pairs <= 2; pairs++) {
                    int depth = Math.max(1, late + (pairs > 0 ? 1 : 0));
                    boolean there = Math.pow(notes + 1, depth) < 4096.5;
                    EchoTune x = on("notes " + notes + ";" + echo + times("pair 1;", pairs));
                    due("depth of " + notes + " notes, late " + late, x.depth(), there ? depth : -1);
                    due("many(1, 0)", x.many(1, 0), there ? notes : -1);
                    due("least(1)", x.least(1), there ? 0 : -1);
                    due("endless(0)", x.endless(0), there ? 0 : -1);
                }
            }
        }
        int[] four = {2, 3, 7, 12};
        for (int notes : four) {
            due("late 64 of " + notes, on("notes " + notes + ";echo late 64 up 0;").depth(), -1);
        }
        due("law and leap alone", on("law 1;leap 1;").depth(), 1);
        due("the greatest late, not the last", on("notes 2;echo late 3 up 1;echo late 5 up 1;echo late 4 up 1;").depth(), 5);
    }

    /** "TABLES are there if no echo has a PACE or a BACK". */
    private static void tablesGone() {
        String[] gone = {"echo late 1 up 1 twice;", "echo late 1 up 1 half;", "echo late 1 up 1 back 200;",
            "echo late 1 up 1 twice back 1;", "echo late 1 up 0;echo late 1 up 0 half;", "echo late 5 up 0;",
            "echo late 1 up 0 back 1;echo late 1 up 0;"};
        for (String text : gone) {
            EchoTune x = on(text, "0 0 0");
            due("depth()", x.depth(), -1);
            for (int part = 0; part < 8; part++) {
                due("many(3, " + part + ")", x.many(3, part), -1);
            }
            due("least(3)", x.least(3), -1);
            due("leastAt(3, 0)", x.leastAt(3, 0), -2);
            due("endless(0)", x.endless(0), -1);
            due("longest()", x.longest(), -1);
            due("mend()", x.mend(), -1);
            due("mendAt(0)", x.mendAt(0), -2);
            boolean plain = text.equals("echo late 5 up 0;");
            due("rounds(1)", x.rounds(1), plain ? 7 : -1);
            due("round(1, 0)", x.round(1, 0), plain ? 0 : -1);
            due("fix(0, 0)", x.fix(0, 0), true);
            due("count(7)", x.count(7), 1);
            due("delays(1, false)", x.delays(1, false), -2);
            due("choir(0, 2, 0)", x.choir(0, 2, 0), 0);
            due("back with TABLES", cliff(x, "echo late 1 up 1;"), 0);
            due("depth()", x.depth(), 1);
        }
    }

    /** "FIXED are BEATS (0 to 59): a note or a rest"; MANY has "a rest just where one is FIXED". */
    private static void fixedEdges() {
        EchoTune x = on("notes 3;leap not(move=0);");
        due("none FIXED", x.many(2, 0), 6);
        for (int beat = 0; beat < 60; beat++) {
            due("fix(" + beat + ")", x.fix(beat, beat % 2 * 2), true);
            due("count(7)", x.count(7), beat + 1);
        }
        due("all FIXED", x.many(60, 0), 1);
        due("all FIXED", x.least(60), 118);
        due("the last one", x.leastAt(60, 59), 2);
        due("fix(59, 0)", x.fix(59, 0), true);
        due("against the law", x.many(60, 0), 0);
        due("against the law", x.least(60), -1);
        due("BEATS behind the end do not count", x.many(59, 0), 1);
        due("fix(59, -1)", x.fix(59, -1), true);
        due("a rest at the end", x.many(60, 0), 1);
        due("a rest at the end", x.leastAt(60, 59), -1);
        due("fix(59, -2)", x.fix(59, -2), true);
        due("free again", x.many(60, 0), 2);
        due("the first of two", x.leastAt(60, 59), 1);
        due("fix(0, -1)", x.fix(0, -1), true);
        due("a rest at the head", x.leastAt(1, 0), -1);
        due("a rest alone", x.least(1), 0);
        due("a rest alone", x.many(1, 0), 1);
    }

    /** "how many tunes of n BEATS (1 to 60) ... have no CLASH (echoes behind the end, too)". */
    private static void manyEdges() {
        for (int notes = 2; notes <= 12; notes++) {
            EchoTune x = on("notes " + notes + ";");
            for (int n = 58; n <= 62; n++) {
                BigInteger all = BigInteger.valueOf(notes).pow(n);
                for (int part = 0; part < 8; part++) {
                    long nine = all.divide(BigInteger.TEN.pow(9 * part)).mod(BigInteger.TEN.pow(9)).longValue();
                    due("many(" + n + ", " + part + ") of " + notes, x.many(n, part), n <= 60 ? nine : -1);
                }
            }
            due("many(1, 0)", x.many(1, 0), notes);
            due("many(0, 0)", x.many(0, 0), -1);
        }
        // The echoes meet 1 and 2 BEATS behind the last note.
        EchoTune x = on("notes 2;echo late 2 up 0;echo late 1 up 1;law not(apart=1) or strong;meter 8;");
        for (int n = 1; n <= 6; n++) {
            due("many(" + n + ", 0)", x.many(n, 0), tunesByHand(n));
        }
        // BEAT 3 is strong, so the echoes behind the end clash there, and not in BEAT 2.
        x = on("notes 2;meter 3;echo late 2 up 0;echo late 2 up 1;law not strong;");
        int[] want = {2, 0, 0, 0};
        for (int n = 1; n <= 4; n++) {
            due("strong behind the end, many(" + n + ", 0)", x.many(n, 0), want[n - 1]);
            due("strong behind the end, least(" + n + ")", x.least(n), want[n - 1] == 0 ? -1 : 0);
        }
        x.fix(1, -1);
        due("a rest where it would be strong", x.many(2, 0), 2);
        due("a rest where it would be strong", x.many(3, 0), 4);
        due("strong again", x.many(5, 0), 0);
        EchoTune none = on("notes 2;leap 0;");
        due("one BEAT", none.many(1, 0), 2);
        for (int part = 0; part < 8; part++) {
            due("none", none.many(2, part), 0);
        }
        EchoTune behind = on("notes 2;echo late 1 up 0;echo late 1 up 1;law 0;");
        due("the clash behind the end", behind.many(1, 0), 0);
        due("the clash behind the end", behind.least(1), -1);
    }

    private static int tunesByHand(int n) {
        int many = 0;
        for (int row = 0; row < 1 << n; row++) {
            EchoTune x = on("notes 2;echo late 2 up 0;echo late 1 up 1;law not(apart=1) or strong;meter 8;");
            for (int beat = 0; beat < n; beat++) {
                x.sing(row >> beat & 1);
            }
            many += x.clashes() == 0 ? 1 : 0;
        }
        return many;
    }

    /** "LEAST: ... the least MOTION (how far each note is from the one in the BEAT before, together)". */
    private static void leastEdges() {
        EchoTune x = on("notes 12;");
        x.fix(0, 11);
        x.fix(59, 0);
        due("the whole way", x.least(60), 11);
        due("of equal ones the first", x.leastAt(60, 1), 0);
        due("of equal ones the first", x.leastAt(60, 58), 0);
        due("without the last", x.least(59), 0);
        due("without the last", x.leastAt(59, 58), 11);
        x.fix(30, -1);
        due("none across a rest", x.least(60), 0);
        due("ahead of the rest", x.leastAt(60, 29), 11);
        due("behind the rest", x.leastAt(60, 31), 0);
        EchoTune wide = on("notes 12;leap move*move=121;");
        due("the most MOTION", wide.least(60), 59 * 11);
        due("the first", wide.leastAt(60, 0), 0);
        due("to and fro", wide.leastAt(60, 59), 11);
        for (int beat = 0; beat < 60; beat++) {
            wide.fix(beat, -1);
        }
        due("rests alone", wide.least(60), 0);
        due("rests alone", wide.leastAt(60, 59), -1);
    }

    /** "ENDLESS: a row of notes without end ...; If there is none: LONGEST". */
    private static void endlessEdges() {
        for (int notes = 2; notes <= 12; notes++) {
            EchoTune x = on("notes " + notes + ";leap 0<move;");
            due("upwards alone", x.longest(), notes);
            due("endless(0)", x.endless(0), -1);
            due("many of that length", x.many(notes, 0), 1);
            due("many of one more", x.many(notes + 1, 0), 0);
            x = on("notes " + notes + ";leap 0<move or 1-" + notes + "=move;");
            due("round about", x.longest(), -1);
            due("endless(0)", x.endless(0), 0);
            for (int i = 1; i <= 13; i++) {
                due("endless(" + i + ")", x.endless(i), i % notes);
            }
            due("endless(998)", x.endless(998), 998 % notes);
            due("endless(999)", x.endless(999), 999 % notes);
        }
        due("a single BEAT", on("notes 2;meter 1;leap 0;").longest(), 1);
        // Of meter 1 and DEPTH 1 a single note that stays is a circle already.
        stays();
        due("till the echo comes", on("notes 2;echo late 7 up 0;law 0;").longest(), 7);
        due("till the strong one", on("notes 2;meter 8;leap not strong;").longest(), 8);
        // The law of the echoes behind the end does not count while one can still sing.
        EchoTune x = on("notes 2;echo late 3 up 0;echo late 3 up 1;law 0;");
        due("echoes to come", x.longest(), 3);
        due("echoes to come", x.many(1, 0), 0);
        x.fix(0, -1);
        due("whatever is FIXED", x.longest(), 3);
        due("downwards alone", on("notes 12;leap move<0;").longest(), 12);
        due("downwards alone", on("notes 12;leap move<0-1;").longest(), 6);
        endlessRows();
    }

    /** A note that stays for ever, a row that climbs and stays, a row that can only climb. */
    private static void stays() {
        for (int meter = 1; meter <= 8; meter++) {
            for (int notes = 2; notes <= 12; notes++) {
                EchoTune x = on("notes " + notes + ";meter " + meter + ";leap move=0;");
                for (int i : new int[] {0, 1, 2, 500, 999}) {
                    due("it stays, endless(" + i + ")", x.endless(i), 0);
                }
                x = on("notes " + notes + ";meter " + meter + ";echo late 1 up 0;leap not(move<0);law apart=1 or apart=0;");
                due("there is an ENDLESS one", x.longest(), -1);
                x = on("notes " + notes + ";meter " + meter + ";echo late 1 up 0;leap not(move<0);law apart=1;");
                due("there is none", x.longest(), notes);
            }
        }
    }

    private static void endlessRows() {
        EchoTune x = on("notes 3;echo late 2 up 0;law apart;leap not(move<0) or move=0-2;");
        for (int i = 0; i < 450; i++) {
            due("endless(" + i + ")", x.endless(i), new int[] {0, 0, 1, 1, 2}[i % 5]);
        }
        for (int i = 980; i < 1000; i++) {
            due("endless(" + i + ")", x.endless(i), new int[] {0, 0, 1, 1, 2}[i % 5]);
        }
        x = on("notes 3;echo late 1 turn 2;law apart=2 or apart=0;leap not(move<0);");
        for (int i = 0; i < 9; i++) {
            due("endless(" + i + ") of 0 2 2 2", x.endless(i), i == 0 ? 0 : 2);
        }
        // The way up to 11 does not come again: only from there one may go back to 10.
        x = on("notes 12;echo late 1 turn 11;leap move=1 or move=0-1;pair move=1 or apart=1;");
        for (int i = 0; i < 100; i++) {
            due("endless(" + i + ") of 0 .. 11 10 11", x.endless(i), i < 10 ? i : 10 + i % 2);
        }
        due("endless(999)", x.endless(999), 11);
        due("endless(1000)", x.endless(1000), -1);
    }

    /** "ROUND of k BEATS (1 to 8; the notes to the power of k 20,000 at most; no PACE, no BACK)". */
    private static void roundEdges() {
        for (int notes = 2; notes <= 12; notes++) {
            EchoTune x = on("notes " + notes + ";");
            for (int k = -1; k <= 10; k++) {
                double rows = Math.pow(notes, Math.max(0, k));
                boolean fits = k >= 1 && k <= 8 && rows < 20000.5;
                due("rounds(" + k + ") of " + notes, x.rounds(k), fits ? (int) rows : -1);
                due("round(" + k + ", 0) of " + notes, x.round(k, 0), fits ? 0 : -1);
                due("round(" + k + ", k - 1) of " + notes, x.round(k, k - 1), fits ? 0 : -1);
                due("round(" + k + ", k) of " + notes, x.round(k, k), -1);
                due("round(" + k + ", -1) of " + notes, x.round(k, -1), -1);
            }
        }
        EchoTune last = on("notes 11;leap move=10 or move=0-10;");
        due("the last ones of 14,641", last.rounds(4), 2);
        due("the first", last.round(4, 3), 10);
        // Sung from ever on: the last note goes ahead of the first, and an echo comes from rounds ago.
        EchoTune x = on("notes 4;leap move=1 or move=0-3;");
        due("all round", x.rounds(4), 4);
        due("not all round", x.rounds(3), 0);
        due("the last of the first", x.round(4, 3), 3);
        for (int late = 1; late <= 64; late++) {
            EchoTune echo = on("notes 2;echo late " + late + " up 0;law apart;");
            for (int k = 1; k <= 4; k++) {
                due("late " + late + " rounds(" + k + ")", echo.rounds(k), roundsByHand(late % k, k));
            }
        }
        // Both echoes sound the whole time, so the pair of them counts in each BEAT, BEAT 0 too.
        due("a pair of echoes", on("notes 2;echo late 64 up 0;echo late 63 up 1;pair move=other;").rounds(2), 2);
    }

    /** How many rows of k of two notes have nowhere the same note so many BEATS ago. */
    private static int roundsByHand(int ago, int k) {
        int many = 0;
        for (int row = 0; row < 1 << k; row++) {
            boolean fine = true;
            for (int i = 0; i < k; i++) {
                fine &= (row >> i & 1) != (row >> Math.floorMod(i - ago, k) & 1);
            }
            many += fine ? 1 : 0;
        }
        return many;
    }

    /** "its first note is in BEAT 0, BEATS are numbered through, so they may be strong at another place each time". */
    private static void roundsStrong() {
        for (int meter = 1; meter <= 8; meter++) {
            // A note must stay into a strong BEAT, or must change: BEAT i is strong at some time if i is 0 modulo
            // the greatest number that divides both.
            EchoTune x = on("notes 2;meter " + meter + ";leap not strong or not(move=0);");
            EchoTune weak = on("notes 2;meter " + meter + ";leap strong or not(move=0);");
            for (int k = 1; k <= 8; k++) {
                due("meter " + meter + ", strong in rounds(" + k + ")", x.rounds(k), changing(k, meter, true));
                due("meter " + meter + ", weak in rounds(" + k + ")", weak.rounds(k), changing(k, meter, false));
            }
        }
        EchoTune first = on("notes 3;meter 2;leap not strong or move=2;");
        due("into BEAT 0 up by 2", first.round(2, 0), 2);
        due("from BEAT 1", first.round(2, 1), 0);
    }

    private static int changing(int k, int meter, boolean strong) {
        int many = 0;
        for (int row = 0; row < 1 << k; row++) {
            boolean fine = true;
            for (int beat = 0; beat < k * meter; beat++) {
                boolean asked = (beat % meter == 0) == strong;
                fine &= !asked || (row >> beat % k & 1) != (row >> (beat + k - 1) % k & 1);
            }
            many += fine ? 1 : 0;
        }
        return many;
    }

    /** "MEND: the TUNE (1 to 60 BEATS) with the fewest notes made other ones (rests stay)". */
    private static void mendEdges() {
        EchoTune x = on("notes 3;leap move;");
        due("no BEATS", x.mend(), -1);
        due("no BEATS", x.mendAt(0), -2);
        for (int n = 1; n <= 62; n++) {
            x.sing(1);
            due("mend() of " + n, x.mend(), n > 60 ? -1 : n / 2);
            due("the last BEAT", x.mendAt(n - 1), n > 60 ? -2 : 1);
            due("behind it", x.mendAt(n), -2);
            due("the first BEAT", x.mendAt(0), n > 60 ? -2 : n % 2 == 0 ? 0 : 1);
        }
        due("200 BEATS", on("", "again 2(again 99(0)0)").mend(), -1);
        due("60 rests", on("leap 0;", "again 60(rest)").mend(), 0);
        due("61 rests", on("leap 0;", "again 61(rest)").mend(), -1);
        x = on("notes 2;leap 0;", "0 rest 1 rest");
        due("rests stay", x.mend(), 0);
        int[] want = {0, -1, 1, -1};
        for (int t = 0; t < 4; t++) {
            due("mendAt(" + t + ")", x.mendAt(t), want[t]);
        }
        due("each note", on("notes 2;echo late 1 turn 0;law apart;", "0 0 0 0").mend(), 2);
        x = on("notes 12;echo late 1 turn 11;law apart=0;", again("0", 60));
        due("all 60 become others", x.mend(), 60);
        due("none can", on("notes 2;echo late 1 up 0;echo late 1 up 0;law apart;", "0").mend(), -1);
        due("none can", on("notes 2;echo late 1 up 0;echo late 1 up 0;law apart;", "0").mendAt(0), -2);
        due("nothing sounds", on("notes 2;echo late 1 up 0;echo late 1 up 0;law apart;", "rest").mend(), 0);
        x = on("notes 3;leap move;", "0 0");
        x.fix(0, 0);
        x.fix(1, 0);
        due("FIXED or not", x.mend(), 1);
        due("FIXED or not", x.mendAt(1), 1);
        due("FIXED, too, in the others", x.least(2), -1);
    }

    private static String again(String item, int many) {
        return "again " + many + "(" + item + ")";
    }

    // ---------------------------------------------------------------- DELAYS, CHOIR, MARKS

    /** "DELAYS by a shift: with one echo alone (up so much, or turned about a note), late 1 to 31". */
    private static void delaysEdges() {
        for (int d = 0; d <= 34; d++) {
            EchoTune x = on("law 0;", d == 0 ? "0" : "0 " + (d == 1 ? "" : again("rest", d - 1)) + "0");
            int all = -2;
            due("two notes, " + d + " BEATS apart", x.delays(0, false), d == 0 || d > 31 ? all : all & ~(1 << d));
            due("the same turned", x.delays(24, true), d == 0 || d > 31 ? all : all & ~(1 << d));
        }
        EchoTune none = on("law 0;leap 0;pair 0;");
        for (int n = -26; n <= 26; n++) {
            due("delays(" + n + ", false)", none.delays(n, false), n < -24 || n > 24 ? -1 : -2);
            due("delays(" + n + ", true)", none.delays(n, true), n < 0 || n > 24 ? -1 : -2);
        }
        // The note 0 and 24 higher or lower, the note 11 turned to -11 and to 37.
        for (int n = -24; n <= 24; n++) {
            EchoTune x = on("notes 12;law not(apart=" + Math.abs(n) + ");", "0 0");
            due("delays(" + n + ", false)", x.delays(n, false), -4);
            due("as far the other way", x.delays(-n, false), -4);
            due("another shift", x.delays(n > 0 ? n - 1 : n + 1, false), -2);
        }
        for (int n = 0; n <= 24; n++) {
            EchoTune x = on("notes 12;law not(apart=" + Math.abs(2 * n - 22) + ");", "11 11");
            due("delays(" + n + ", true)", x.delays(n, true), -4);
        }
        due("the whole 200", on("law 0;", "again 2(again 99(0)0)").delays(0, false), 0);
        due("one echo alone", on(times("echo late 1 up 0;", 8) + "law 0;", "0").delays(0, false), -2);
        due("whatever PACE", on("echo late 1 up 0 twice;law 0;", "0 rest 0").delays(0, false), ~(1 | 1 << 2));
        due("one BEAT together", on("pair 0;", again("0", 32)).delays(0, false), 1 << 31);
        due("two BEATS together", on("pair 0;", again("0", 33)).delays(0, false), 0);
        due("none together", on("law 0;", again("0", 31)).delays(0, false), 1 << 31);
        due("one together", on("law 0;", again("0", 32)).delays(0, false), 0);
        due("a leap", on("leap not(move=6);", "0 6").delays(0, false), 0);
    }

    /** "CHOIR: singers (2 to 6) sing the TUNE, by a SEED (0 to 9999)"; the DRAWS. */
    private static void choirEdges() {
        int[] seeds = {0, 1, 2, 4999, 9998, 9999};
        for (int notes = 2; notes <= 12; notes += 5) {
            for (int seed : seeds) {
                EchoTune x = on("notes " + notes + ";law 0;", "again 2(again 99(0)0)");
                for (int singers = 1; singers <= 7; singers++) {
                    choirOf(x, seed, singers, notes, 200);
                }
            }
        }
        EchoTune one = on("law 0;", "0");
        EchoTune empty = on("law 0;pair 0;leap 0;");
        for (int seed = 9940; seed <= 9999; seed++) {
            int[] start = drawn(seed, 6, 7)[0];
            int[] at = new int[16];
            int many = 0;
            int first = -1;
            for (int s : start) {
                at[s]++;
            }
            for (int t = 15; t >= 0; t--) {
                many += at[t] >= 2 ? 1 : 0;
                first = at[t] >= 2 ? t : first;
            }
            due("choir(" + seed + ", 6, 0) of one BEAT", one.choir(seed, 6, 0), many);
            due("choir(" + seed + ", 6, 1) of one BEAT", one.choir(seed, 6, 1), first);
            due("of none", empty.choir(seed, 6, 0), 0);
            due("of none", empty.choir(seed, 6, 1), -1);
            due("of none", empty.choir(seed, 6, 2), start[0]);
        }
    }

    private static int[][] drawn(int seed, int singers, int notes) {
        int[][] drawn = new int[2][singers];
        BigInteger g = BigInteger.valueOf(seed);
        for (int i = 0; i < 2 * singers; i++) {
            g = g.multiply(BigInteger.valueOf(1103515245L)).add(BigInteger.valueOf(12345)).mod(BigInteger.valueOf(2147483648L));
            int high = g.divide(BigInteger.valueOf(65536)).intValueExact();
            drawn[i % 2][i / 2] = high % (i % 2 == 0 ? 16 : notes);
        }
        return drawn;
    }

    /** All that a choir answers of a TUNE without rests that is longer than 16, if no two may sound together. */
    private static void choirOf(EchoTune x, int seed, int singers, int notes, int length) {
        boolean fits = singers >= 2 && singers <= 6;
        int[][] drawn = drawn(seed, singers, notes);
        int[] sorted = drawn[0].clone();
        java.util.Arrays.sort(sorted);
        String call = "choir(" + seed + ", " + singers + ", ";
        // From when the second has come in until the last but one has ended.
        due(call + "0)", x.choir(seed, singers, 0), fits ? sorted[singers - 2] + length - sorted[1] : -1);
        due(call + "1)", x.choir(seed, singers, 1), fits ? sorted[1] : -1);
        for (int s = 0; s < 6; s++) {
            due(call + (2 + s) + ")", x.choir(seed, singers, 2 + s), fits && s < singers ? drawn[0][s] : -1);
            due(call + (8 + s) + ")", x.choir(seed, singers, 8 + s), fits && s < singers ? drawn[1][s] : -1);
        }
        due(call + "14)", x.choir(seed, singers, 14), -1);
        due(call + "-1)", x.choir(seed, singers, -1), -1);
    }

    /** "MARKS 0 to 3 hold the CLIFF, the TUNE, what is FIXED, as they are". */
    private static void markEdges() {
        EchoTune x = new EchoTune();
        for (int mark = 0; mark < 4; mark++) {
            due("nothing is on it", x.mark(mark, true), false);
        }
        due("an empty one", x.mark(0, false), true);
        for (int mark = 1; mark < 4; mark++) {
            due("cliff", cliff(x, "notes " + (2 + mark) + ";meter " + mark + ";" + times("echo late 1 up 0;", mark)
                + times("law apart<" + mark + ";", mark)), 0);
            due("draft", draft(x, times(mark + " ", mark)), 0);
            x.fix(mark, mark);
            due("nothing is on it yet", x.mark(mark, true), false);
            due("laid", x.mark(mark, false), true);
        }
        x.clear();
        due("the full TUNE", draft(x, "again 2(again 99(rest)rest)"), 0);
        for (int beat = 0; beat < 60; beat++) {
            x.fix(beat, 0);
        }
        for (int i = 0; i < 8; i++) {
            int mark = i * 3 % 4;
            due("back to " + mark, x.mark(mark, true), true);
            due("count(0)", x.count(0), mark == 0 ? 7 : 2 + mark);
            due("count(1)", x.count(1), mark == 0 ? 4 : mark);
            due("count(2)", x.count(2), mark);
            due("count(3)", x.count(3), mark);
            due("count(6)", x.count(6), mark);
            due("count(7)", x.count(7), mark == 0 ? 0 : 1);
            due("note(0)", x.note(0), mark == 0 ? -2 : mark);
            due("note(mark)", x.note(mark), -2);
            due("what is FIXED", x.fix(mark, mark), true);
            due("is FIXED already", x.count(7), 1);
            x.sing(0);
            x.fix(59, 1);
        }
    }

    public static void main(String[] args) {
        Runnable[] all = {TermBoundsTest::tapeSigns, TermBoundsTest::tapeFull, TermBoundsTest::tapeTaken,
            TermBoundsTest::words, TermBoundsTest::numbers, TermBoundsTest::signs,
            TermBoundsTest::notesAndMeter, TermBoundsTest::echoBounds, TermBoundsTest::lineBounds,
            TermBoundsTest::partBounds, TermBoundsTest::factBounds, TermBoundsTest::worths,
            TermBoundsTest::itemBounds, TermBoundsTest::itemNesting, TermBoundsTest::ledNotes,
            TermBoundsTest::draftFull, TermBoundsTest::faultPlaces, TermBoundsTest::faultOrder,
            TermBoundsTest::readWell, TermBoundsTest::echoEdges, TermBoundsTest::anyNumber,
            TermBoundsTest::strongBeats, TermBoundsTest::keptEdges, TermBoundsTest::clashOrder,
            TermBoundsTest::tablesEdges, TermBoundsTest::tablesGone, TermBoundsTest::fixedEdges,
            TermBoundsTest::manyEdges, TermBoundsTest::leastEdges, TermBoundsTest::endlessEdges,
            TermBoundsTest::roundEdges, TermBoundsTest::roundsStrong, TermBoundsTest::mendEdges,
            TermBoundsTest::delaysEdges, TermBoundsTest::choirEdges, TermBoundsTest::markEdges};
        for (int i = 0; i < all.length; i++) {
            begin("sentence " + (1 + i));
            all[i].run();
        }
        finish();
    }
}
