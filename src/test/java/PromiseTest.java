import java.lang.reflect.Constructor;
import java.lang.reflect.Field;
import java.lang.reflect.Method;
import java.lang.reflect.Modifier;
import java.util.TreeSet;

/** One method for each promise of the document: ordinary inputs, the edges it names, wrong inputs. */
public final class PromiseTest extends Checks {
    private static void face() {
        TreeSet<String> names = new TreeSet<>();
        TreeSet<String> hidden = new TreeSet<>();
        for (Method m : EchoTune.class.getDeclaredMethods()) {
            if (Modifier.isPrivate(m.getModifiers())) {
                hidden.add(m.getName());
            } else {
                due("public " + m.getName(), Modifier.isPublic(m.getModifiers()), true);
                names.add(m.getName() + m.getParameterCount() + m.getReturnType());
            }
        }
        due("the methods", names.toString().equals(
            "[choir3int, clash1int, clashes0int, clear0boolean, cliff0int, count1int, delays2int, depth0int, "
            + "draft0int, end0int, endless1int, feed3int, fix2boolean, least1int, leastAt2int, longest0int, "
            + "many2long, mark2boolean, mend0int, mendAt1int, note1int, round2int, rounds1int, sing1int, voice2int]"),
            true);
        for (Class<?> inside : EchoTune.class.getDeclaredClasses()) {
            due(inside.getName() + " static", Modifier.isStatic(inside.getModifiers()), true);
            due(inside.getName() + " public", Modifier.isPublic(inside.getModifiers()), false);
            for (Method m : inside.getDeclaredMethods()) {
                hidden.add(m.getName());
            }
        }
        for (String name : names) {
            due("a hidden " + name, hidden.contains(name.split("[0-9]")[0]), false);
        }
        for (Field f : EchoTune.class.getDeclaredFields()) {
            boolean shown = !Modifier.isPrivate(f.getModifiers());
            due("field " + f.getName() + " shown", shown, f.getName().equals("NONE"));
            boolean open = Modifier.isStatic(f.getModifiers()) && !Modifier.isFinal(f.getModifiers());
            due("field " + f.getName() + " static and not final", open, false);
        }
        for (Constructor<?> c : EchoTune.class.getDeclaredConstructors()) {
            due("constructor's parameters", c.getParameterCount(), 0);
        }
        due("final", Modifier.isFinal(EchoTune.class.getModifiers()), true);
        due("NONE", EchoTune.NONE, -1);
    }

    private static void promise1() {
        EchoTune x = new EchoTune();
        int[] want = {7, 4, 0, 0, 0, 0, 0, 0, 0};
        for (int i = 0; i < want.length; i++) {
            due("count(" + i + ")", x.count(i), want[i]);
        }
        due("note(0)", x.note(0), -2);
        due("mark(0, true)", x.mark(0, true), false);
        due("sing(6)", x.sing(6), 1);
        due("sing(7)", x.sing(7), -1);
    }

    private static void promise2() {
        EchoTune x = new EchoTune();
        due("feed nothing", x.feed(0, 0, 0), 0);
        due("feed others", x.feed(0x090B0D1F7F80FFC8L, -1, 0x8182838485868788L), 0);
        due("feed the edges", x.feed(0x0A207E0000000000L, 0, 0), 3);
        due("feed c alone", x.feed(0, 0, 0x20L), 4);
        due("cliff: ~ is none", x.cliff(), 1 + 16 * 2);
        // The highest byte is the first, a is ahead of b and b ahead of c.
        due("feed in order", x.feed(word("notes", 0), word(" 3", 0), word(";", 0)), 8);
        due("cliff in order", x.cliff(), 0);
        due("count(0)", x.count(0), 3);
        for (int i = 1; i <= 41; i++) {
            due("feed 24", x.feed(word("        ", 0), word("        ", 0), word("        ", 0)), 24 * i);
        }
        due("feed 16 more", x.feed(word("        ", 0), word("       n", 0), word("otes", 0)), 1000);
        due("feed beyond", x.feed(word("xxxxxxxx", 0), 0, 0), 1000);
        due("count(8)", x.count(8), 1000);
        due("cliff", x.cliff(), 1 + 16 * 999);
        due("count(8) when read", x.count(8), 0);
    }

    private static void promise3() {
        promise3Lines();
        promise3Faults();
        promise3Nesting();
        promise3Stays();
    }

    private static void promise3Lines() {
        EchoTune x = on("notes 12;meter 8;echo late 64 turn 24 half back 200;echo late 1 up 0 twice;"
            + "echo\nlate 0002down24 back 1;law 1;leap 1;pair 1;law 0;law strong;law apart;leap move;pair other;");
        int[] want = {12, 8, 3, 4, 2, 2};
        for (int i = 0; i < want.length; i++) {
            due("count(" + i + ")", x.count(i), want[i]);
        }
        due("the empty cliff", cliff(x, ""), 0);
        due("count(0) again", x.count(0), 7);
        due("count(2) again", x.count(2), 0);
        due("blanks alone", cliff(x, " \n "), 0);
        due("a letter right behind", cliff(x, "notes3;meter 2;echo late 2up 3half back 3;"), 0);
        due("count(0)", x.count(0), 3);
    }

    private static void promise3Faults() {
        cliffFault("notes", 1, 5);
        cliffFault("notes ", 1, 6);
        cliffFault("notes x", 1, 6);
        cliffFault("notes 1", 4, 6);
        cliffFault("notes 13 ; %", 4, 6);
        cliffFault("notes 12345", 1, 6);
        cliffFault("notes 0002;notes 3;", 3, 11);
        cliffFault("meter 0", 4, 6);
        cliffFault("meter 9", 4, 6);
        cliffFault("meter 1;meter 1;", 3, 8);
        cliffFault("meters 3", 1, 0);
        cliffFault("abcdefghi", 1, 0);
        cliffFault(" ;", 1, 1);
        cliffFault("Notes 3", 1, 0);
        cliffFault("echo 3", 1, 5);
        cliffFault("echo late up", 1, 10);
        cliffFault("echo late 0", 4, 10);
        cliffFault("echo late 65", 4, 10);
        cliffFault("echo late 3 ;", 1, 12);
        cliffFault("echo late 3 down 25", 4, 17);
        cliffFault("echo late 3 turn 25", 4, 17);
        cliffFault("echo late 3 up ;", 1, 15);
        cliffFault("echo late 3 up 1 back 0", 4, 22);
        cliffFault("echo late 3 up 1 back 201", 4, 22);
        cliffFault("echo late 3 up 1 back 2 half", 1, 24);
        cliffFault("echo late 3 up 1 twice half", 1, 23);
        cliffFault(times("echo late 1 up 1;", 8) + "echo", 5, 136);
        cliffFault(times("law 1;", 4) + "law", 5, 24);
        cliffFault(times("leap 1;", 2) + "leap", 5, 14);
        cliffFault(times("pair 1;", 2) + "pair", 5, 14);
        cliffFault("law ;", 1, 4);
        cliffFault("law 1", 1, 5);
        cliffFault("law 1 1", 1, 6);
        cliffFault("law 1 and ;", 1, 10);
        cliffFault("law 1 < 2 < 3", 1, 10);
        cliffFault("law 1 = 2 + 1 = 3", 1, 14);
        cliffFault("law ( 1 ;", 1, 8);
        cliffFault("law 1 )", 1, 6);
        cliffFault("law ( 1 ) ) ;", 1, 10);
        cliffFault("law ( )", 1, 6);
        cliffFault("law was", 1, 4);
        cliffFault("law other", 1, 4);
        cliffFault("law move", 1, 4);
        cliffFault("leap apart", 1, 5);
        cliffFault("leap was", 1, 5);
        cliffFault("leap other", 1, 5);
        cliffFault("law - 1", 1, 4);
        cliffFault("law 12345", 1, 4);
        cliffFault("law 1 / 2", 1, 6);
    }

    private static void promise3Nesting() {
        due("4 of not", cliff(new EchoTune(), "law not not not not 1;"), 0);
        cliffFault("law not not not not not 1;", 5, 24);
        cliffFault("law not not not not not not", 5, 24);
        cliffFault("law not not not not not and", 1, 24);
        due("4 of (", cliff(new EchoTune(), "law ((((1))));"), 0);
        cliffFault("law (((((1", 5, 9);
        cliffFault("law ((((((", 5, 9);
        cliffFault("law ((((()", 1, 9);
        cliffFault("law (not(not(apart", 5, 13);
        due("not ends with its PART", cliff(new EchoTune(), "law " + times("not not not not 1 + ", 9) + "1;"), 0);
        due("( ) side by side", cliff(new EchoTune(), "law " + times("((((1)))) * ", 9) + "not(not(1));"), 0);
        due("a long E", cliff(new EchoTune(), "law 1" + times("+1", 490) + ";"), 0);
    }

    private static void promise3Stays() {
        EchoTune x = on("notes 3;", "0 1 2");
        x.fix(3, 1);
        due("a fault", cliff(x, "notes 5; meter 9;"), 4 + 16 * 15);
        due("count(0) stays", x.count(0), 3);
        due("count(6) stays", x.count(6), 3);
        due("count(7) stays", x.count(7), 1);
        due("the TAPE is empty", x.count(8), 0);
        due("no fault", cliff(x, "notes 5;"), 0);
        due("the TUNE is empty", x.count(6), 0);
        due("nothing is FIXED", x.count(7), 0);
        due("meter without", x.count(1), 4);
    }

    private static void promise4() {
        EchoTune x = on("notes 4;", "0 rest up 1 ( 2 down 2 ( 4 ) ) again 2 ( 1 rest again 2 ( 3 ) )");
        int[] want = {0, -1, 3, 3, 1, -1, 3, 3, 1, -1, 3, 3, -2};
        for (int i = 0; i < want.length; i++) {
            due("note(" + i + ")", x.note(i), want[i]);
        }
        x.fix(2, 1);
        due("a fault", draft(x, "1 1 4"), 4 + 16 * 4);
        due("the TUNE stays", x.count(6), 12);
        due("the TAPE is empty", x.count(8), 0);
        due("led from above", draft(x, "down 24(27)up 0(0)"), 0);
        due("note(0)", x.note(0), 3);
        due("what is FIXED stays", x.count(7), 1);
        due("the empty draft", draft(x, ""), 0);
        due("count(6)", x.count(6), 0);
        promise4Faults();
        promise4Length();
    }

    private static void promise4Faults() {
        draftFault("7", 4, 0);
        draftFault("0 12345", 1, 2);
        draftFault("down 1 ( 1 0 )", 4, 11);
        draftFault("up 6 ( 0 1 )", 4, 9);
        draftFault("up 6 ( up 1 ( 0", 4, 14);
        draftFault("again", 1, 5);
        draftFault("again 0 (", 4, 6);
        draftFault("again 100 (", 4, 6);
        draftFault("again 3 0", 1, 8);
        draftFault("up 25 (", 4, 3);
        draftFault("down 25 (", 4, 5);
        draftFault("up ( 1 )", 1, 3);
        draftFault("(1)", 1, 0);
        draftFault("1 )", 1, 2);
        draftFault("again 1 ( 1", 1, 11);
        draftFault("again 1 ( 1 \n", 1, 13);
        draftFault("rests", 1, 0);
        draftFault("rest ;", 1, 5);
        draftFault("1 < 2", 1, 2);
        draftFault("not", 1, 0);
        String five = times("up 0 (", 5);
        due("5 of ( )", draft(new EchoTune(), five + times(")", 5)), 0);
        draftFault(five + "0", 5, 30);
        draftFault(five + "7", 4, 30);
        draftFault(five + "rest", 5, 30);
        draftFault(five + "up", 5, 30);
        draftFault(five + "down", 5, 30);
        draftFault(five + "again", 5, 30);
        draftFault(five + "(", 1, 30);
    }

    private static void promise4Length() {
        EchoTune x = new EchoTune();
        due("200 at once", draft(x, "again 50 ( 0 1 2 rest )"), 0);
        due("count(6)", x.count(6), 200);
        draftFault("again 67 ( 0 1 2 )", 5, 17);
        draftFault("again 99(0)again 99(0)0 0 0", 5, 26);
        draftFault("again 99(0)again 99(0)0 0 7", 4, 26);
        draftFault("again 99(0)again 99(0)0 0 rest", 5, 26);
        draftFault("again 99(0)again 99(0)again 3(0)", 5, 31);
        draftFault("again 3(again 67(0)1)", 5, 20);
        due("198 and 2", draft(x, "again 2(again 99(0))0 0again 99()"), 0);
        due("count(6)", x.count(6), 200);
    }

    private static void promise5() {
        EchoTune x = on("notes 2;");
        due("sing(0)", x.sing(0), 1);
        due("sing(1)", x.sing(1), 2);
        due("sing(NONE)", x.sing(EchoTune.NONE), 3);
        due("sing(2)", x.sing(2), -1);
        due("sing(-2)", x.sing(-2), -1);
        due("sing(greatest)", x.sing(Integer.MAX_VALUE), -1);
        due("sing(least)", x.sing(Integer.MIN_VALUE), -1);
        due("note(2)", x.note(2), -1);
        due("count(6)", x.count(6), 3);
        draft(x, "again 66 ( 0 1 rest ) 1");
        due("the 200th", x.sing(0), 200);
        due("the 201st", x.sing(0), -1);
        due("a 201st rest", x.sing(-1), -1);
        due("count(6)", x.count(6), 200);
    }

    private static void promise6() {
        EchoTune x = on("", "6 rest 0");
        due("note(0)", x.note(0), 6);
        due("note(1)", x.note(1), -1);
        due("note(2)", x.note(2), 0);
        due("note(3)", x.note(3), -2);
        due("note(-1)", x.note(-1), -2);
        due("note(greatest)", x.note(Integer.MAX_VALUE), -2);
        due("note(least)", x.note(Integer.MIN_VALUE), -2);
    }

    private static void promise7() {
        EchoTune x = on("echo late 2 up 24;echo late 1 down 3;echo late 3 turn 1;echo late 1 up 0 twice;"
            + "echo late 2 up 0 half;echo late 2 up 0 back 2;echo late 1 up 0 half back 3;", "0 1 rest 3 4");
        int no = Integer.MIN_VALUE;
        int[][] want = {
            {0, 1, no, 3, 4, no, no, no, no, no, no, no, no},
            {no, no, 24, 25, no, 27, 28, no, no, no, no, no, no},
            {no, -3, -2, no, 0, 1, no, no, no, no, no, no, no},
            {no, no, no, 2, 1, no, -1, -2, no, no, no, no, no},
            {no, 0, 0, 1, 1, no, no, 3, 3, 4, 4, no, no},
            {no, no, 0, no, 4, no, no, no, no, no, no, no, no},
            {no, no, 0, 1, no, no, no, no, no, no, no, no, no},
            {no, 0, no, no, no, no, no, no, no, no, no, no, no}};
        for (int v = 0; v < want.length; v++) {
            for (int t = 0; t < want[v].length; t++) {
                if (want[v][t] == no) {
                    silent(x, v, t);
                } else {
                    due("voice(" + v + ", " + t + ")", x.voice(v, t), want[v][t]);
                }
            }
        }
        silent(x, -1, 0);
        silent(x, 8, 3);
        silent(x, Integer.MIN_VALUE, 0);
        silent(x, Integer.MAX_VALUE, 0);
        for (int v = 0; v < 8; v++) {
            silent(x, v, -1);
            silent(x, v, Integer.MIN_VALUE);
            silent(x, v, Integer.MAX_VALUE);
            silent(x, v, 1 << 30);
        }
    }

    private static void promise8() {
        due("nothing", on("echo late 3 up 1;").end(), -1);
        due("rests alone", on("echo late 3 up 1;", "rest rest").end(), -1);
        due("the singer", on("", "0 1 rest").end(), 1);
        due("an echo", on("echo late 64 up 1;echo late 2 up 1;", "0").end(), 64);
        due("back", on("echo late 64 up 1 back 1;", "0 1 2").end(), 64);
        due("twice", on("echo late 64 up 1 twice;", "again 99(0 1)2 3").end(), 463);
        due("half", on("echo late 5 up 1 half;", "0 1 2 3 4").end(), 7);
        due("half, odd ones lost", on("echo late 60 up 1 half;", "rest 1 rest 3").end(), 3);
    }

    private static void promise9() {
        EchoTune x = on("meter 3;echo late 1 up 0;echo late 2 up 1;law 1;law not(apart=3);leap 1;leap not(move=5);"
            + "pair not(move=other and apart=1);", "0 3");
        clash(x, 1, 0, 1, 1, 1);
        draft(x, "0 5");
        clash(x, 1, 0, 0, 0, 1);
        draft(x, "0 1 2 2");
        clash(x, 2, 0, 1, 2, 0);
        draft(x, "0 0 0");
        clash(x, 3, 1, 2, 2, 0);
        due("clash(5)", x.clash(5), -1);
        due("clash(-1)", x.clash(-1), -1);
        due("clash(least)", x.clash(Integer.MIN_VALUE), -1);
        draft(x, "0 0 2");
        for (int i = -1; i < 6; i++) {
            due("clash(" + i + ") of none", x.clash(i), -1);
        }
        // In one BEAT: leap, then a, then b, law ahead of pair, then the first line.
        EchoTune all = on("echo late 1 up 0;echo late 1 up 9;law 1;law 0;pair 0;leap 0;", "0 rest 0 0");
        clash(all, 1, 1, 2, 1, 1);
        draft(all, "0 0");
        clash(all, 1, 0, 0, 0, 0);
        EchoTune pair = on("echo late 1 up 0;echo late 2 up 9;law not(apart=9);pair 0;", "0 0 0");
        clash(pair, 2, 0, 1, 2, 0);
        EchoTune strong = on("meter 2;echo late 1 up 0;law not strong;", "rest 0 0");
        clash(strong, 2, 0, 1, 1, 0);
        strong = on("meter 2;echo late 1 up 0;law strong;", "0 0 0");
        clash(strong, 1, 0, 1, 1, 0);
        EchoTune behind = on("echo late 64 up 0 twice;echo late 63 up 0 twice;law apart;", "again 99(0 1)2 2");
        clash(behind, 64, 0, 1, 1, 0);
        behind = on("echo late 64 up 0 twice;echo late 64 up 11 twice;law apart=12;", "2");
        clash(behind, 64, 1, 2, 1, 0);
    }

    private static void promise10() {
        EchoTune x = on("echo late 1 up 0;law apart;leap not(move=1);", "0 0 1 1 2 rest 3 3");
        due("clashes()", x.clashes(), 5);
        due("none", on("echo late 1 up 0;law apart;", "0 1 2").clashes(), 0);
        due("an empty TUNE", on("echo late 1 up 0;law 0;").clashes(), 0);
        due("echoes behind the end", on("echo late 9 up 0;echo late 9 up 1;law 0;", "0 rest 1").clashes(), 2);
        due("far behind", on("echo late 64 up 0 twice;echo late 64 up 1 twice;law 0;", "again 99(0 1)0 0").clashes(), 400);
        // What is not 0 is so, ints wrap, and of not, and, or, < and = comes 1 or 0.
        due("wrap", on("leap 9999*9999*9999<0;", "0 0").clashes(), 0);
        due("65536 * 65536", on("leap 256*256*256*256;", "0 0").clashes(), 1);
        due("or of 4", on("leap (4 or 0)=1;", "0 0").clashes(), 0);
        due("and of 4", on("leap (4 and 2)=1;", "0 0").clashes(), 0);
        due("not of 4", on("leap not 4=0;", "0 0").clashes(), 0);
        due("not of 0", on("leap not 0=1;", "0 0").clashes(), 0);
        due("below gives 1", on("leap (1<4)=1 and (4<1)=0;", "0 0").clashes(), 0);
        due("equal gives 1", on("leap (4=4)=1 and (4=1)=0;", "0 0").clashes(), 0);
        due("not binds close", on("leap not 0+1=2;", "0 0").clashes(), 0);
        due("from the left", on("leap 1 or 1 and 0;", "0 0").clashes(), 1);
        due("less from the left", on("leap 9-4-3=2;", "0 0").clashes(), 0);
        due("product ahead of sum", on("leap 2+3*4=14;", "0 0").clashes(), 0);
        due("below", on("leap 0-3<0-2 and not(2<2);", "0 0").clashes(), 0);
        due("move up", on("leap move=3;", "1 4").clashes(), 0);
        due("move down", on("leap 0-3=move;", "4 1").clashes(), 0);
        due("pair's facts", on("echo late 1 up 2;pair apart=5 and was=1 and move=4 and other=0-2 or not strong;",
            "rest rest 4 2 6 rest").clashes(), 1);
        due("pair's facts kept", on("echo late 1 up 2;pair apart=2 and was=4 and move=4 and other=0-2 or not strong;",
            "rest rest 4 2 6 rest").clashes(), 0);
    }

    private static void promise11() {
        EchoTune x = on("notes 3;");
        due("fix(0, 0)", x.fix(0, 0), true);
        due("fix(59, 2)", x.fix(59, 2), true);
        due("fix(1, NONE)", x.fix(1, -1), true);
        due("fix(2, -2)", x.fix(2, -2), true);
        due("count(7)", x.count(7), 3);
        due("fix(0, 1) anew", x.fix(0, 1), true);
        due("count(7)", x.count(7), 3);
        due("fix(0, -2)", x.fix(0, -2), true);
        due("count(7)", x.count(7), 2);
        due("fix(0, 3)", x.fix(0, 3), false);
        due("fix(0, -3)", x.fix(0, -3), false);
        due("fix(60, 0)", x.fix(60, 0), false);
        due("fix(-1, 0)", x.fix(-1, 0), false);
        due("fix(60, -2)", x.fix(60, -2), false);
        due("fix(least, least)", x.fix(Integer.MIN_VALUE, Integer.MIN_VALUE), false);
        due("count(7)", x.count(7), 2);
        due("count(6)", x.count(6), 0);
    }

    private static void promise12() {
        due("none", new EchoTune().depth(), 1);
        due("pair alone", on("pair 1;").depth(), 1);
        due("late 2 and 3", on("echo late 3 up 1;echo late 2 up 1;").depth(), 3);
        due("late 3 and a pair", on("echo late 3 up 1;pair 1;").depth(), 4);
        due("8 to the power of 5", on("echo late 4 up 1;pair 1;").depth(), -1);
        due("13 to the power of 3", on("notes 12;echo late 3 up 1;").depth(), 3);
        due("13 to the power of 4", on("notes 12;echo late 4 up 1;").depth(), -1);
        due("3 to the power of 7", on("notes 2;echo late 7 up 1;").depth(), 7);
        due("3 to the power of 8", on("notes 2;echo late 8 up 1;").depth(), -1);
        due("3 to the power of 64", on("notes 2;echo late 64 up 1;").depth(), -1);
        due("4 to the power of 6", on("notes 3;echo late 6 up 1;").depth(), 6);
        due("a PACE", on("echo late 1 up 1 twice;").depth(), -1);
        due("a PACE", on("echo late 1 up 1;echo late 1 up 1 half;").depth(), -1);
        due("a BACK", on("echo late 1 up 1 back 200;").depth(), -1);
    }

    private static void promise13() {
        EchoTune x = on("notes 12;");
        String twelve = java.math.BigInteger.valueOf(12).pow(60).toString();
        for (int p = 0; p < 8; p++) {
            int to = twelve.length() - 9 * p;
            String nine = to <= 0 ? "0" : twelve.substring(Math.max(0, to - 9), to);
            due("many(60, " + p + ")", x.many(60, p), Long.parseLong(nine));
        }
        due("many(1, 0)", x.many(1, 0), 12);
        due("many(0, 0)", x.many(0, 0), -1);
        due("many(61, 0)", x.many(61, 0), -1);
        due("many(1, -1)", x.many(1, -1), -1);
        due("many(1, 8)", x.many(1, 8), -1);
        due("no TABLES", on("echo late 9 up 1;").many(1, 0), -1);
        // Ten notes: here all nine digits of many parts are 0 together.
        EchoTune ten = on("notes 10;");
        for (int n = 1; n <= 60; n++) {
            for (int p = 0; p < 8; p++) {
                long digit = n / 9 == p ? (long) Math.pow(10, n % 9) : 0;
                due("many(" + n + ", " + p + ") of ten", ten.many(n, p), digit);
            }
        }
        ten.fix(0, -1);
        ten.fix(1, -1);
        due("a rest alone", ten.many(1, 0), 1);
        due("rests alone", ten.many(2, 0), 1);
        due("rests ahead", ten.many(3, 0), 10);
        // Behind the end two echoes clash, which the singer can't mend.
        x = on("notes 2;echo late 1 up 0;echo late 2 up 0;law apart;");
        due("many(1, 0)", x.many(1, 0), 2);
        due("many(2, 0)", x.many(2, 0), 2);
        due("many(3, 0)", x.many(3, 0), 0);
        x.fix(1, -1);
        due("many(2, 0)", x.many(2, 0), 2);
        due("many(3, 0)", x.many(3, 0), 2);
        due("many(4, 0)", x.many(4, 0), 2);
        x.fix(0, 1);
        due("many(3, 0)", x.many(3, 0), 1);
        due("many(1, 0)", x.many(1, 0), 1);
        x.fix(0, -2);
        due("many(3, 0)", x.many(3, 0), 2);
        x = on("notes 3;meter 2;echo late 1 up 0;law strong or apart;");
        due("strong BEATS differ", x.many(2, 0), 6);
        due("strong BEATS differ", x.many(3, 0), 18);
        due("strong BEATS differ", x.many(4, 0), 36);
        x.fix(2, 1);
        due("FIXED behind the end", x.many(2, 0), 6);
    }

    private static void promise14() {
        EchoTune x = on("notes 5;leap move;");
        due("least(1)", x.least(1), 0);
        due("least(4)", x.least(4), 3);
        due("least(60)", x.least(60), 59);
        due("least(0)", x.least(0), -1);
        due("least(61)", x.least(61), -1);
        due("least(least)", x.least(Integer.MIN_VALUE), -1);
        x.fix(0, 4);
        x.fix(3, 0);
        due("with FIXED", x.least(4), 4);
        x.fix(1, -1);
        due("a rest ends MOTION", x.least(4), 1);
        due("none", on("notes 2;leap 0<move;").least(3), -1);
        due("no TABLES", on("echo late 9 up 1;").least(3), -1);
    }

    private static void promise15() {
        EchoTune x = on("notes 5;leap move;");
        int[] first = {0, 1, 0, 1};
        for (int t = 0; t < 4; t++) {
            due("leastAt(4, " + t + ")", x.leastAt(4, t), first[t]);
        }
        x.fix(0, 4);
        x.fix(2, -1);
        x.fix(4, 3);
        int[] then = {4, 3, -1, 2, 3, 2};
        for (int t = 0; t < 6; t++) {
            due("leastAt(6, " + t + ")", x.leastAt(6, t), then[t]);
        }
        due("leastAt(6, 6)", x.leastAt(6, 6), -2);
        due("leastAt(6, -1)", x.leastAt(6, -1), -2);
        due("leastAt(0, 0)", x.leastAt(0, 0), -2);
        due("leastAt(61, 0)", x.leastAt(61, 0), -2);
        due("leastAt(60, 59)", x.leastAt(60, 59), 0);
        due("leastAt(greatest, 0)", x.leastAt(Integer.MAX_VALUE, 0), -2);
        due("none", on("notes 2;leap 0<move;").leastAt(3, 0), -2);
        due("no TABLES", on("echo late 9 up 1;").leastAt(3, 0), -2);
    }

    private static void promise16() {
        EchoTune x = on("notes 3;meter 2;leap move or strong;");
        int[] want = {0, 1, 0, 1, 0, 1, 0, 1};
        for (int i = 0; i < want.length; i++) {
            due("endless(" + i + ")", x.endless(i), want[i]);
        }
        due("endless(999)", x.endless(999), 1);
        due("endless(998)", x.endless(998), 0);
        due("endless(1000)", x.endless(1000), -1);
        due("endless(-1)", x.endless(-1), -1);
        x.fix(0, 2);
        due("whatever is FIXED", x.endless(0), 0);
        due("none", on("notes 3;leap 0<move;").endless(0), -1);
        due("no TABLES", on("echo late 9 up 1;").endless(0), -1);
        // 0 leads to 1 and 1 nowhere, 2 to itself: the row must not begin in vain.
        x = on("notes 3;echo late 1 turn 0;law apart=1 or apart=4;leap not(move<0);");
        due("not in vain", x.endless(0), 2);
        due("not in vain", x.endless(1), 2);
        x = on("notes 4;echo late 1 up 0;law not(apart=0) and not(apart=1);");
        due("first of all", x.endless(0), 0);
        due("first of all", x.endless(1), 2);
        due("first of all", x.endless(2), 0);
    }

    private static void promise17() {
        due("there is one", new EchoTune().longest(), -1);
        due("12", on("notes 12;leap 0<move;").longest(), 12);
        due("1", on("leap 0;").longest(), 1);
        due("no TABLES", on("echo late 9 up 1;law 0;").longest(), -1);
        EchoTune x = on("notes 3;meter 5;leap not strong;");
        due("till the strong one", x.longest(), 5);
        x.fix(2, -1);
        due("whatever is FIXED", x.longest(), 5);
        due("no echo behind the end", on("notes 2;echo late 3 up 0;law 0;").longest(), 3);
    }

    private static void promise18() {
        EchoTune x = on("notes 3;meter 2;leap move;echo late 64 down 1;law not(apart=1);");
        // Late 64 is 1 BEAT back in a round of 3, so no note is 2 lower than the one before it.
        due("round(3, 0)", x.round(3, 0), 0);
        due("round(3, 1)", x.round(3, 1), 2);
        due("round(3, 2)", x.round(3, 2), 1);
        due("round(3, 3)", x.round(3, 3), -1);
        due("round(3, -1)", x.round(3, -1), -1);
        due("round(1, 0)", x.round(1, 0), -1);
        due("round(0, 0)", x.round(0, 0), -1);
        due("round(9, 0)", x.round(9, 0), -1);
        x.fix(0, 2);
        due("whatever is FIXED", x.round(3, 0), 0);
        x = on("notes 3;meter 2;leap strong=0 or move<1 and not(move=0);");
        due("strong in BEAT 0", x.round(2, 0), 0);
        due("strong in BEAT 0", x.round(2, 1), 1);
        due("strong in each of 3", x.round(3, 0), -1);
        due("PACE", on("echo late 1 up 1 half;").round(1, 0), -1);
        due("BACK", on("echo late 1 up 1 back 9;").round(1, 0), -1);
        due("no TABLES needed", on("echo late 64 up 1;").round(1, 0), 0);
    }

    private static void promise19() {
        EchoTune x = on("notes 3;meter 2;leap move;");
        int[] want = {-1, 0, 6, 6, 18, 30, 66, 126, 258, -1};
        for (int k = 0; k < want.length; k++) {
            due("rounds(" + k + ")", x.rounds(k), want[k]);
        }
        due("rounds(least)", x.rounds(Integer.MIN_VALUE), -1);
        due("7 to the power of 5", new EchoTune().rounds(5), 16807);
        due("7 to the power of 6", new EchoTune().rounds(6), -1);
        due("12 to the power of 3", on("notes 12;").rounds(3), 1728);
        due("12 to the power of 4", on("notes 12;").rounds(4), -1);
        due("2 to the power of 8", on("notes 2;").rounds(8), 256);
        due("PACE", on("echo late 1 up 1 half;").rounds(1), -1);
        due("BACK", on("echo late 1 up 1 back 9;").rounds(1), -1);
        due("strong now and then", on("notes 2;meter 3;leap not strong or move;").rounds(2), 2);
        due("strong in BEAT 0 alone", on("notes 2;meter 2;leap not strong or move;").rounds(2), 2);
        due("never weak", on("notes 2;meter 1;leap strong;").rounds(2), 4);
        due("strong and weak", on("notes 2;meter 4;leap strong;").rounds(8), 0);
        due("pair", on("notes 2;echo late 1 up 0;pair move or other;").rounds(4), 6);
        due("no TABLES needed", on("echo late 64 up 1;").rounds(2), 49);
    }

    private static void promise20() {
        EchoTune x = on("notes 4;leap not(move=0);", "0 0 0 rest 0 0");
        due("mend()", x.mend(), 2);
        due("a TUNE that is fine", on("leap move;", "0 1 0").mend(), 0);
        due("an empty TUNE", on("leap move;").mend(), -1);
        due("60 BEATS", on("leap move;", "again 60(0)").mend(), 30);
        due("61 BEATS", on("leap move;", "again 61(0)").mend(), -1);
        due("none can", on("leap 0;", "0 0").mend(), -1);
        due("rests stay", on("notes 2;echo late 1 up 0;law 0;", "0 rest 1").mend(), 0);
        due("no TABLES", on("echo late 9 up 0;", "0 0").mend(), -1);
        x = on("notes 4;leap not(move=0);", "0 0");
        x.fix(1, 0);
        due("FIXED or not", x.mend(), 1);
        due("the TUNE stays", x.note(0) + x.note(1), 0);
        x.sing(0);
        due("a longer TUNE", x.mend(), 1);
        x = on("notes 3;echo late 1 up 0;echo late 2 up 0;law apart;", "0 0");
        due("echoes behind the end", x.mend(), 1);
    }

    private static void promise21() {
        EchoTune x = on("notes 4;leap not(move=0);", "0 0 0 rest 0 0");
        int[] want = {0, 1, 0, -1, 0, 1};
        for (int t = 0; t < want.length; t++) {
            due("mendAt(" + t + ")", x.mendAt(t), want[t]);
        }
        due("mendAt(6)", x.mendAt(6), -2);
        due("mendAt(-1)", x.mendAt(-1), -2);
        due("an empty TUNE", on("leap move;").mendAt(0), -2);
        due("61 BEATS", on("leap move;", "again 61(0)").mendAt(0), -2);
        due("none can", on("leap 0;", "0 0").mendAt(0), -2);
        due("no TABLES", on("echo late 9 up 0;", "0 0").mendAt(0), -2);
        x = on("notes 4;leap not(move=0);", "3 3");
        due("of as many the first", x.mendAt(0), 0);
        due("of as many the first", x.mendAt(1), 3);
    }

    private static void promise22() {
        EchoTune x = on("law apart;", "0 1 0 0");
        // Late 1: BEAT 3 is the same; late 2: BEAT 2; late 3: BEAT 3; later nothing sounds together.
        due("delays(0, false)", x.delays(0, false), ~15);
        due("delays(1, false)", x.delays(1, false), -4);
        due("delays(24, false)", x.delays(24, false), -2);
        due("delays(-24, false)", x.delays(-24, false), -2);
        due("delays(25, false)", x.delays(25, false), -1);
        due("delays(-25, false)", x.delays(-25, false), -1);
        due("delays(0, true)", x.delays(0, true), ~15);
        due("delays(24, true)", x.delays(24, true), -2);
        due("delays(25, true)", x.delays(25, true), -1);
        due("delays(-1, true)", x.delays(-1, true), -1);
        due("delays(least, true)", x.delays(Integer.MIN_VALUE, true), -1);
        due("an empty TUNE", on("law 0;leap 0;pair 0;").delays(0, false), -2);
        due("a leap", on("leap 0;", "0 0").delays(0, false), 0);
        due("the CLIFF's echoes are gone", on("echo late 1 up 0;echo late 1 up 0;law apart;", "0").delays(0, false), -2);
        due("31", on("law 0;", "0 " + times("rest ", 30) + "0").delays(0, false), 0x7FFFFFFE);
        due("30", on("law 0;", "0 " + times("rest ", 29) + "0").delays(0, false), ~1 & ~(1 << 30));
        due("pair", on("pair not(move=other);", "0 1 2 3").delays(0, false), ~1 & ~2 & ~4);
        due("pair turned", on("pair not(move=other);", "0 1 2 3").delays(0, true), -2);
        due("strong", on("meter 3;law not strong;", "0 rest 0").delays(0, false), -2);
        due("strong", on("meter 2;law not strong;", "0 rest 0").delays(0, false), ~1 & ~4);
    }

    private static void promise23() {
        EchoTune x = on("notes 4;law 0;pair 0;leap 0;", "0 1 2");
        // The draws of seed 1: g / 65536 is 16838, 5758, 10113, 17515.
        due("choir(1, 2, 2)", x.choir(1, 2, 2), 16838 % 16);
        due("choir(1, 2, 8)", x.choir(1, 2, 8), 5758 % 4);
        due("choir(1, 2, 3)", x.choir(1, 2, 3), 10113 % 16);
        due("choir(1, 2, 9)", x.choir(1, 2, 9), 17515 % 4);
        // They sing from 6 to 8 and from 1 to 3.
        due("choir(1, 2, 0)", x.choir(1, 2, 0), 0);
        due("choir(1, 2, 1)", x.choir(1, 2, 1), -1);
        draft(x, "0 1 2 rest rest 3 3 3");
        due("choir(1, 2, 0)", x.choir(1, 2, 0), 3);
        due("choir(1, 2, 1)", x.choir(1, 2, 1), 6);
        due("choir(1, 2, 4)", x.choir(1, 2, 4), -1);
        due("choir(1, 2, 10)", x.choir(1, 2, 10), -1);
        due("choir(1, 6, 7)", x.choir(1, 6, 7) >= 0, true);
        due("choir(1, 6, 13)", x.choir(1, 6, 13) >= 0, true);
        due("choir(1, 6, 14)", x.choir(1, 6, 14), -1);
        due("choir(1, 2, -1)", x.choir(1, 2, -1), -1);
        due("choir(9999, 2, 2)", x.choir(9999, 2, 2) >= 0, true);
        due("choir(10000, 2, 2)", x.choir(10000, 2, 2), -1);
        due("choir(-1, 2, 2)", x.choir(-1, 2, 2), -1);
        due("choir(0, 2, 2)", x.choir(0, 2, 2), 0);
        due("choir(0, 1, 2)", x.choir(0, 1, 2), -1);
        due("choir(0, 7, 2)", x.choir(0, 7, 2), -1);
        due("leaps do not count", on("leap 0;", "0 1 2 3 4 5 6").choir(1, 6, 0), 0);
        due("echoes do not count", on("echo late 1 up 0;law apart=0;", "rest").choir(1, 2, 0), 0);
        // Seed 1 with 7 notes: from 6 on 4 higher, from 1 on 1 higher.
        due("apart", on("law apart=3;", "again 10(2)").choir(1, 2, 0), 0);
        due("pair", on("pair 0;", "again 10(2)").choir(1, 2, 0), 4);
        due("pair, the first", on("pair 0;", "again 10(2)").choir(1, 2, 1), 7);
        due("strong", on("meter 5;law not strong;", "again 10(2)").choir(1, 2, 1), 10);
    }

    private static void promise24() {
        EchoTune x = on("notes 4;leap move;", "0 0");
        x.fix(3, 1);
        tell(x, "1 2");
        due("mend()", x.mend(), 1);
        due("clear()", x.clear(), true);
        due("count(6)", x.count(6), 0);
        due("count(7)", x.count(7), 0);
        due("the CLIFF stays", x.count(4), 1);
        due("the TAPE stays", x.count(8), 3);
        due("mend()", x.mend(), -1);
        due("clear() again", x.clear(), true);
    }

    private static void promise25() {
        EchoTune x = on("notes 4;leap move;", "0 0");
        x.fix(3, 1);
        due("mark(0)", x.mark(0, false), true);
        due("mark(3)", x.mark(3, false), true);
        due("mark(4)", x.mark(4, false), false);
        due("mark(-1)", x.mark(-1, false), false);
        due("nothing on 1", x.mark(1, true), false);
        due("back to 4", x.mark(4, true), false);
        due("back to -1", x.mark(-1, true), false);
        x.sing(2);
        due("cliff", cliff(x, "notes 9;echo late 1 up 1;law 0;meter 3;"), 0);
        x.fix(0, 8);
        x.fix(1, 8);
        x.sing(8);
        due("mark(1)", x.mark(1, false), true);
        tell(x, "0");
        due("many(2, 0)", x.many(2, 0), 0);
        for (int i = 0; i < 2; i++) {
            due("back to 0", x.mark(0, true), true);
            due("count(0)", x.count(0), 4);
            due("count(1)", x.count(1), 4);
            due("count(2)", x.count(2), 0);
            due("count(6)", x.count(6), 2);
            due("count(7)", x.count(7), 1);
            due("many(2, 0)", x.many(2, 0), 12);
            due("mend()", x.mend(), 1);
            due("the TAPE is not held", x.count(8), 1);
            x.clear();
            due("back to 1", x.mark(1, true), true);
            due("count(0)", x.count(0), 9);
            due("count(3)", x.count(3), 1);
            due("note(0)", x.note(0), 8);
            due("mend()", x.mend(), 0);
            due("count(7)", x.count(7), 2);
        }
        due("mark(0) anew", x.mark(0, false), true);
        x.clear();
        x.mark(0, true);
        due("count(0)", x.count(0), 9);
        x.mark(3, true);
        due("3 is as it was", x.count(0), 4);
    }

    private static void promise26() {
        EchoTune x = on("notes 5;meter 6;echo late 1 up 1;echo late 1 up 1;law 1;law 1;law 1;leap 1;pair 1;pair 1;", "0 1 rest 3");
        for (int t = 0; t < 7; t++) {
            x.fix(t, -1);
        }
        tell(x, "abcdefgh");
        int[] want = {5, 6, 2, 3, 1, 2, 4, 7, 8};
        for (int i = 0; i < want.length; i++) {
            due("count(" + i + ")", x.count(i), want[i]);
        }
        due("count(9)", x.count(9), -1);
        due("count(-1)", x.count(-1), -1);
        due("count(least)", x.count(Integer.MIN_VALUE), -1);
    }

    public static void main(String[] args) {
        Runnable[] all = {PromiseTest::face, PromiseTest::promise1, PromiseTest::promise2, PromiseTest::promise3,
            PromiseTest::promise4, PromiseTest::promise5, PromiseTest::promise6, PromiseTest::promise7,
            PromiseTest::promise8, PromiseTest::promise9, PromiseTest::promise10, PromiseTest::promise11,
            PromiseTest::promise12, PromiseTest::promise13, PromiseTest::promise14, PromiseTest::promise15,
            PromiseTest::promise16, PromiseTest::promise17, PromiseTest::promise18, PromiseTest::promise19,
            PromiseTest::promise20, PromiseTest::promise21, PromiseTest::promise22, PromiseTest::promise23,
            PromiseTest::promise24, PromiseTest::promise25, PromiseTest::promise26};
        for (int i = 0; i < all.length; i++) {
            begin(i == 0 ? "the face" : "promise " + i);
            all[i].run();
        }
        finish();
    }
}
