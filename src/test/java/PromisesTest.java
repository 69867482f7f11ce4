/** Each promise of the document in turn: ordinary inputs, the edges that it names, and wrong inputs. */
public final class PromisesTest {
    private static int wrong = 0;

    private static void due(String what, int got, int want) {
        if (got != want) {
            wrong++;
            System.out.println(what + ": answered " + got + ", due is " + want);
        }
    }

    private static void due(String what, boolean got, boolean want) {
        due(what, got ? 1 : 0, want ? 1 : 0);
    }

    /** The PATH that these LETTERS lead to from the ROOT, made if it isn't there. */
    private static int at(SandboxTree x, String letters) {
        int path = 0;
        for (char letter : letters.toCharArray()) {
            path = x.path(path, letter);
        }
        return path;
    }

    private static void promise1() {
        SandboxTree x = new SandboxTree(10);
        due("1: the ROOT has no FILE", x.source(0), 0);
        due("1: no ACTIONS", x.about(0, 0), -1);
        due("1: first PATH after the ROOT", x.path(0, 'a'), 1);
        due("1: first ACTION", x.action(), 0);
        due("1: limit 0", operationsLetThrough(0), 1);
        due("1: lowest limit", operationsLetThrough(Integer.MIN_VALUE), 1);
        due("1: limit 1", operationsLetThrough(1), 1);
        due("1: limit 2", operationsLetThrough(2), 2);
        due("1: limit 499", operationsLetThrough(499), 499);
        due("1: limit 500", operationsLetThrough(500), 500);
        due("1: limit 501", operationsLetThrough(501), 500);
        due("1: highest limit", operationsLetThrough(Integer.MAX_VALUE), 500);
    }

    private static int operationsLetThrough(int limit) {
        SandboxTree x = new SandboxTree(limit);
        x.action();
        x.begin(0);
        int through = 0;
        while (through < 505 && x.list(0, 0, 0) != -9) {
            through++;
        }
        due("1: OPERATIONS told of limit " + limit, x.about(0, 1), through);
        return through;
    }

    private static void promise2() {
        SandboxTree x = new SandboxTree(10);
        due("2: new", x.path(0, 'a'), 1);
        due("2: other case is another", x.path(0, 'A'), 2);
        due("2: in another", x.path(1, 'a'), 3);
        due("2: there already", x.path(0, 'a'), 1);
        due("2: there already, deeper", x.path(1, 'a'), 3);
        due("2: no parent", x.path(4, 'a'), -1);
        due("2: parent below 0", x.path(-1, 'a'), -1);
        due("2: parent far below 0", x.path(Integer.MIN_VALUE, 'a'), -1);
        due("2: parent far above", x.path(Integer.MAX_VALUE, 'a'), -1);
        for (char bad : new char[] {'@', '[', '`', '{', '0', ' ', 0, '\u00e9', '\uffff'}) {
            due("2: no LETTER " + (int) bad, x.path(0, bad), -1);
        }
        due("2: z", x.path(0, 'z'), 4);
        due("2: Z", x.path(0, 'Z'), 5);
        for (int n = 6; n < 60; n++) {
            due("2: chain", x.path(n - 1, 'q'), n);
        }
        due("2: a 61st", x.path(0, 'b'), -1);
        due("2: deepest of 60 has no room in it", x.path(59, 'b'), -1);
        due("2: one of the 60", x.path(58, 'q'), 59);
        due("2: the 60th can have a FILE", x.file(59, 3), true);
        due("2: a FILE at the bottom is in the way at the top", x.file(5, 3), false);
    }

    private static void promise3() {
        SandboxTree x = new SandboxTree(10);
        int a = at(x, "a");
        int ab = at(x, "ab");
        int abc = at(x, "abc");
        int ad = at(x, "ad");
        due("3: no such PATH", x.file(5, 1), false);
        due("3: PATH below 0", x.file(-1, 1), false);
        due("3: far PATH", x.file(Integer.MAX_VALUE, 1), false);
        due("3: the ROOT", x.file(0, 1), false);
        due("3: the ROOT, 0", x.file(0, 0), false);
        due("3: below 0", x.file(a, -1), false);
        due("3: lowest", x.file(a, Integer.MIN_VALUE), false);
        due("3: none to take away", x.file(a, 0), true);
        due("3: put", x.file(ab, 4), true);
        due("3: put anew", x.file(ab, Integer.MAX_VALUE), true);
        due("3: it is there", x.source(ab), Integer.MAX_VALUE);
        due("3: one in it is in the way", x.file(a, 1), false);
        due("3: one above is in the way", x.file(abc, 1), false);
        due("3: in the way of 0, too", x.file(abc, 0), false);
        due("3: beside", x.file(ad, 1), true);
        due("3: a refused one changes nothing", x.source(ab), Integer.MAX_VALUE);
        due("3: take away", x.file(ab, 0), true);
        due("3: it is gone", x.source(ab), 0);
        due("3: then one in it may come", x.file(abc, 6), true);
        due("3: at any depth", x.file(a, 1), false);
        due("3: other PATH stays", x.source(ad), 1);
    }

    private static void promise4() {
        SandboxTree x = new SandboxTree(10);
        int a = at(x, "a");
        due("4: none", x.source(a), 0);
        x.file(a, 12);
        due("4: CONTENT", x.source(a), 12);
        due("4: no such PATH", x.source(2), 0);
        due("4: below 0", x.source(-1), 0);
        due("4: beyond the 60", x.source(60), 0);
        due("4: lowest", x.source(Integer.MIN_VALUE), 0);
        due("4: highest", x.source(Integer.MAX_VALUE), 0);
    }

    private static void promise5() {
        SandboxTree x = new SandboxTree(10);
        for (int n = 0; n < 10; n++) {
            due("5: number", x.action(), n);
        }
        due("5: an 11th", x.action(), -1);
        due("5: and again", x.action(), -1);
        due("5: the 10th is there", x.begin(9), 0);
        due("5: the 11th isn't", x.begin(10), -1);
        due("5: nor for declare", x.declare(10, x.path(0, 'a'), true), -1);
        due("5: nor for about", x.about(10, 0), -1);
    }

    private static void promise6() {
        SandboxTree x = new SandboxTree(10);
        int a = at(x, "a");
        int ab = at(x, "ab");
        int abc = at(x, "abc");
        int d = at(x, "d");
        due("6: no such ACTION", x.declare(0, a, true), -1);
        x.action();
        due("6: ACTION below 0", x.declare(-1, a, true), -1);
        due("6: no such PATH", x.declare(0, 9, true), -1);
        due("6: PATH below 0", x.declare(0, -1, true), -1);
        due("6: the ROOT", x.declare(0, 0, false), -1);
        for (int kinds = 0; kinds < 4; kinds++) {
            int n = x.action();
            boolean first = (kinds & 1) != 0;
            boolean second = (kinds & 2) != 0;
            due("6: middle", x.declare(n, ab, first), 1);
            due("6: above it", x.declare(n, a, second), -2);
            due("6: in it", x.declare(n, abc, second), -2);
            due("6: itself", x.declare(n, ab, second), -2);
            due("6: beside it", x.declare(n, d, second), 1);
        }
        declareTwelve();
        x.declare(0, d, true);
        x.begin(0);
        due("6: its WORLD is there", x.declare(0, a, true), -1);
        due("6: its WORLD is there, before - 2", x.declare(0, d, true), -1);
        x.finish(0, true);
        due("6: its WORLD has ended", x.declare(0, a, true), 1);
    }

    private static void declareTwelve() {
        SandboxTree x = new SandboxTree(10);
        x.action();
        x.action();
        for (int n = 0; n < 12; n++) {
            due("6: of twelve", x.declare(0, x.path(0, (char) ('a' + n)), n % 2 == 0), 1);
        }
        due("6: a 13th", x.declare(0, x.path(0, 'm'), true), -1);
        due("6: a 13th, before - 2", x.declare(0, 1, true), -1);
        due("6: another ACTION has none yet", x.declare(1, 1, true), 1);
    }

    private static void promise7() {
        SandboxTree x = new SandboxTree(50);
        int o = at(x, "o");
        x.action();
        x.declare(0, o, true);
        x.begin(0);
        x.write(0, o, 0);
        due("7: at first it isn't STRICT", x.about(0, 3), 0);
        x.strict(true);
        due("7: what was refused before doesn't count", x.about(0, 3), 0);
        x.open(0, o);
        x.list(0, o, 5);
        x.write(0, o, 2);
        x.link(0, o, 99);
        due("7: open, list and - 1 break nothing", x.about(0, 3), 0);
        x.write(0, o, 0);
        due("7: a refused write, at once", x.about(0, 3), 1);
        x.strict(false);
        due("7: it stays BROKEN", x.about(0, 3), 1);
        due("7: and is told", x.finish(0, false), -2);
        x.begin(0);
        due("7: a new WORLD isn't", x.about(0, 3), 0);
        x.strict(true);
        x.link(0, o, 0);
        due("7: a refused link", x.about(0, 3), 1);
        x.finish(0, true);
        x.begin(0);
        x.remove(0, o);
        due("7: a refused remove", x.about(0, 3), 1);
        x.finish(0, true);
        x.begin(0);
        x.strict(false);
        x.remove(0, o);
        due("7: off again", x.about(0, 3), 0);
    }

    private static void promise8() {
        SandboxTree x = new SandboxTree(10);
        int a = at(x, "a");
        int ab = at(x, "ab");
        int ac = at(x, "acd");
        int e = at(x, "e");
        int f = at(x, "f");
        due("8: no such ACTION", x.begin(0), -1);
        x.action();
        due("8: below 0", x.begin(-1), -1);
        due("8: without INPUTS", x.begin(0), 0);
        due("8: it is there", x.begin(0), -1);
        x.finish(0, true);
        x.declare(0, a, false);
        due("8: an INPUT without FILES", x.begin(0), -2);
        due("8: isn't begun", x.about(0, 0), 0);
        x.file(ab, 1);
        x.file(ac, 2);
        x.file(e, 3);
        x.file(f, 4);
        due("8: FILES at any depth", x.begin(0), 2);
        due("8: what isn't DECLARED isn't seen", x.open(0, e), 0);
        x.finish(0, true);
        x.declare(0, e, false);
        x.declare(0, f, true);
        due("8: two INPUTS", x.begin(0), 3);
        due("8: what is UNDER an OUTPUT isn't there", x.open(0, f), 0);
        x.file(ab, 8);
        x.file(ac, 0);
        due("8: FILES as they were then", x.open(0, ab), 1);
        due("8: FILES that were there then", x.open(0, ac), 2);
        x.finish(0, true);
        x.file(e, 0);
        due("8: the second INPUT without FILES", x.begin(0), -2);
        due("8: of the latest WORLD all is kept", x.tried(0, 0), f);
        due("8: and counted", x.about(0, 1), 3);
        x.file(e, 5);
        due("8: again", x.begin(0), 2);
        due("8: with a new count", x.about(0, 1), 0);
        due("8: and nothing TRIED", x.tried(0, 0), -1);
    }

    private static void promise9() {
        SandboxTree x = new SandboxTree(30);
        int a = at(x, "a");
        int[] s = new int[7];
        for (int n = 0; n < 7; n++) {
            s[n] = at(x, "z" + (char) ('a' + n));
        }
        x.file(a, 77);
        due("9: no such ACTION", x.open(0, a), -1);
        x.action();
        x.declare(0, a, false);
        due("9: no WORLD", x.open(0, a), -1);
        x.begin(0);
        due("9: no such PATH", x.open(0, 50), -1);
        due("9: PATH below 0", x.open(0, -1), -1);
        due("9: far PATH", x.open(0, Integer.MAX_VALUE), -1);
        due("9: far ACTION", x.open(Integer.MIN_VALUE, a), -1);
        due("9: these are no OPERATIONS", x.about(0, 1), 0);
        due("9: a FILE", x.open(0, a), 77);
        x.link(0, s[0], a);
        for (int n = 1; n < 5; n++) {
            x.link(0, s[n], s[n - 1]);
        }
        due("9: one LINK", x.open(0, s[0]), 77);
        due("9: four LINKS", x.open(0, s[3]), 77);
        due("9: five LINKS", x.open(0, s[4]), 0);
        due("9: the LINK is TRIED, not where it ends", x.tried(0, 0), s[4]);
        x.link(0, s[5], s[5]);
        due("9: a LINK to itself", x.open(0, s[5]), 0);
        due("9: the ROOT", x.open(0, 0), 0);
        due("9: once more", x.open(0, s[4]), 0);
        due("9: TRIED in order", x.tried(0, 1), s[5]);
        due("9: the ROOT is TRIED", x.tried(0, 2), 0);
        due("9: noted once", x.tried(0, 3), -1);
        due("9: open is never refused", x.about(0, 2), 0);
        x.finish(0, true);
        due("9: the WORLD has ended", x.open(0, a), -1);
        overLimit();
    }

    private static void overLimit() {
        SandboxTree x = new SandboxTree(1);
        int o = at(x, "o");
        x.action();
        x.declare(0, o, true);
        x.begin(0);
        due("9: the first OPERATION", x.write(0, o, 5), 1);
        due("9: not BROKEN yet", x.about(0, 3), 0);
        due("9: - 1 before - 9", x.open(0, 44), -1);
        due("9: - 1 doesn't break", x.about(0, 3), 0);
        due("9: open", x.open(0, 0), -9);
        due("9: BROKEN", x.about(0, 3), 1);
        due("9: not TRIED", x.tried(0, 0), -1);
        due("10: - 9", x.write(0, o, 6), -9);
        due("11: - 9", x.link(0, o, o), -9);
        due("12: - 9", x.remove(0, o), -9);
        due("13: - 9", x.list(0, 0, 0), -9);
        due("16: those of - 9 aren't counted", x.about(0, 1), 1);
        due("16: nor are they told as refused", x.about(0, 2), 0);
        due("14: BROKEN by the limit", x.finish(0, false), -2);
        due("14: nothing came", x.source(o), 0);
        x.begin(0);
        due("9: a new WORLD has all its OPERATIONS", x.write(0, o, 6), 1);
        due("14: and can end well", x.finish(0, false), 1);
    }

    private static void promise10() {
        SandboxTree x = new SandboxTree(50);
        int i = at(x, "i");
        int o = at(x, "o");
        int op = at(x, "op");
        int opq = at(x, "opq");
        int other = at(x, "r");
        x.file(i, 1);
        due("10: no such ACTION", x.write(0, o, 1), -1);
        x.action();
        x.declare(0, i, false);
        x.declare(0, o, true);
        due("10: no WORLD", x.write(0, o, 1), -1);
        x.begin(0);
        due("10: no such PATH", x.write(0, 50, 1), -1);
        due("10: PATH below 0", x.write(0, -1, 1), -1);
        due("10: an INPUT", x.write(0, i, 1), 0);
        due("10: what isn't DECLARED", x.write(0, other, 1), 0);
        due("10: the ROOT", x.write(0, 0, 1), 0);
        due("10: CONTENT 0", x.write(0, op, 0), 0);
        due("10: CONTENT below 0", x.write(0, op, Integer.MIN_VALUE), 0);
        due("10: UNDER an OUTPUT", x.write(0, op, 4), 1);
        due("10: one in it is in the way", x.write(0, o, 4), 0);
        due("10: one above is in the way", x.write(0, opq, 4), 0);
        due("10: in place of a FILE", x.write(0, op, 5), 1);
        due("10: it is there", x.open(0, op), 5);
        due("10: in place of it a LINK", x.link(0, op, i), 1);
        due("10: a LINK is in the way, too", x.write(0, opq, 4), 0);
        due("10: in place of a LINK", x.write(0, op, 6), 1);
        due("10: not through the LINK", x.open(0, i), 1);
        due("10: a FILE again", x.open(0, op), 6);
        due("10: nothing in the SOURCE yet", x.source(op), 0);
        due("10: refused", x.about(0, 2), 8);
        x.remove(0, op);
        due("10: the OUTPUT itself", x.write(0, o, Integer.MAX_VALUE), 1);
        due("10: highest CONTENT", x.open(0, o), Integer.MAX_VALUE);
        scratch();
    }

    private static void scratch() {
        SandboxTree x = new SandboxTree(50);
        x.action();
        x.begin(0);
        int za = at(x, "za");
        int zab = at(x, "zab");
        int z = at(x, "z");
        int capital = at(x, "Za");
        int deep = at(x, "az");
        due("10: SCRATCH, by PATHS that came after begin", x.write(0, zab, 1), 1);
        due("10: z itself", x.write(0, z, 1), 0);
        due("10: Z isn't z", x.write(0, capital, 1), 0);
        due("10: a z that isn't in the ROOT", x.write(0, deep, 1), 0);
        due("10: in the way in SCRATCH", x.write(0, za, 1), 0);
        due("14: SCRATCH stays nowhere", x.finish(0, false), 0);
        due("14: nor in the SOURCE", x.source(zab), 0);
        x.begin(0);
        due("10: nor in the next WORLD", x.open(0, zab), 0);
        x.finish(0, true);
        x.file(zab, 3);
        x.declare(0, zab, false);
        due("10: an INPUT in z", x.begin(0), 1);
        due("10: UNDER an INPUT is no SCRATCH", x.write(0, zab, 4), 0);
        due("10: an INPUT's FILE is in the way", x.write(0, za, 4), 0);
        due("10: beside it", x.write(0, at(x, "zc"), 4), 1);
        x.action();
        x.declare(1, z, true);
        x.begin(1);
        due("10: z as an OUTPUT", x.write(1, z, 9), 1);
        due("14: comes", x.finish(1, false), 1);
        due("14: to z", x.source(z), 9);
        due("14: in place of all in it", x.source(zab), 0);
        x.action();
        x.declare(2, z, false);
        due("10: z as an INPUT", x.begin(2), 1);
        due("10: there is no SCRATCH then", x.write(2, za, 1), 0);
        due("12: nor there", x.remove(2, z), 0);
    }

    private static void promise11() {
        SandboxTree x = new SandboxTree(50);
        int i = at(x, "i");
        int ij = at(x, "ij");
        int ik = at(x, "ik");
        int o = at(x, "o");
        int op = at(x, "op");
        int z = at(x, "z");
        int za = at(x, "za");
        int r = at(x, "r");
        x.file(ij, 4);
        x.file(r, 5);
        due("11: no such ACTION", x.link(0, o, ij), -1);
        x.action();
        x.declare(0, i, false);
        x.declare(0, o, true);
        due("11: no WORLD", x.link(0, o, ij), -1);
        x.begin(0);
        due("11: no such PATH", x.link(0, 50, ij), -1);
        due("11: no such other PATH", x.link(0, o, 50), -1);
        due("11: other PATH below 0", x.link(0, o, -1), -1);
        due("11: at an INPUT", x.link(0, ik, ij), 0);
        due("11: at what isn't DECLARED", x.link(0, r, ij), 0);
        due("11: to what isn't DECLARED", x.link(0, o, r), 0);
        due("11: to the ROOT", x.link(0, o, 0), 0);
        due("11: to z itself", x.link(0, o, z), 0);
        due("11: to a FILE of an INPUT", x.link(0, op, ij), 1);
        due("11: leads there", x.open(0, op), 4);
        due("11: one in it is in the way", x.link(0, o, ij), 0);
        due("11: to nothing UNDER an INPUT", x.link(0, op, ik), 1);
        due("11: leads nowhere", x.open(0, op), 0);
        due("11: to an INPUT that has FILES in it", x.link(0, op, i), 1);
        due("11: which is no FILE", x.open(0, op), 0);
        due("11: to SCRATCH", x.link(0, op, za), 1);
        due("11: where nothing is yet", x.open(0, op), 0);
        due("11: in SCRATCH to an OUTPUT", x.link(0, za, o), 1);
        due("11: in place of a LINK", x.write(0, za, 8), 1);
        due("11: a LINK leads to what is there now", x.open(0, op), 8);
        due("11: in place of a FILE", x.link(0, za, ij), 1);
        due("11: LINK to a LINK", x.open(0, op), 4);
        due("11: one above is in the way", x.link(0, at(x, "opq"), ij), 0);
        due("11: refused", x.about(0, 2), 7);
    }

    private static void promise12() {
        SandboxTree x = new SandboxTree(50);
        int i = at(x, "i");
        int o = at(x, "o");
        int op = at(x, "op");
        int za = at(x, "za");
        x.file(i, 4);
        due("12: no such ACTION", x.remove(0, o), -1);
        x.action();
        x.declare(0, i, false);
        x.declare(0, o, true);
        due("12: no WORLD", x.remove(0, o), -1);
        x.begin(0);
        due("12: no such PATH", x.remove(0, 50), -1);
        due("12: PATH below 0", x.remove(0, -1), -1);
        due("12: nothing there", x.remove(0, o), 0);
        due("12: a FILE of an INPUT", x.remove(0, i), 0);
        due("12: which stays", x.open(0, i), 4);
        x.write(0, op, 3);
        due("12: at that PATH alone", x.remove(0, o), 0);
        due("12: a FILE", x.remove(0, op), 1);
        due("12: it is gone", x.open(0, op), 0);
        due("12: gone twice", x.remove(0, op), 0);
        x.link(0, za, i);
        due("12: a LINK", x.remove(0, za), 1);
        due("12: not where it leads", x.open(0, i), 4);
        due("12: the LINK is gone", x.open(0, za), 0);
        due("12: refused", x.about(0, 2), 4);
        due("12: then the OUTPUT is free", x.write(0, o, 2), 1);
    }

    private static void promise13() {
        SandboxTree x = new SandboxTree(50);
        int i = at(x, "i");
        int o = at(x, "o");
        int om = at(x, "om");
        at(x, "oM");
        x.file(i, 4);
        due("13: no such ACTION", x.list(0, o, 0), -1);
        x.action();
        x.declare(0, i, false);
        x.declare(0, o, true);
        due("13: no WORLD", x.list(0, o, 0), -1);
        x.begin(0);
        due("13: no such PATH", x.list(0, 50, 0), -1);
        due("13: PATH below 0", x.list(0, -1, 0), -1);
        due("13: what isn't seen isn't told", x.list(0, o, 0), 0);
        due("13: a FILE has nothing in it", x.list(0, i, 0), 0);
        x.write(0, at(x, "oz"), 1);
        x.write(0, at(x, "oA"), 1);
        x.link(0, at(x, "oa"), om);
        x.write(0, at(x, "omxy"), 1);
        x.write(0, at(x, "oZ"), 1);
        String due = "AZamz";
        for (int n = 0; n < due.length(); n++) {
            due("13: by code", x.list(0, o, n), due.charAt(n));
        }
        due("13: one more", x.list(0, o, 5), 0);
        due("13: i below 0", x.list(0, o, -1), 0);
        due("13: lowest i", x.list(0, o, Integer.MIN_VALUE), 0);
        due("13: highest i", x.list(0, o, Integer.MAX_VALUE), 0);
        due("13: at any depth", x.list(0, om, 0), 'x');
        due("13: the ROOT", x.list(0, 0, 0), 'i');
        due("13: the ROOT's second", x.list(0, 0, 1), 'o');
        due("13: the ROOT's third", x.list(0, 0, 2), 0);
        due("13: OPERATIONS", x.about(0, 1), 20);
        due("13: nothing TRIED", x.tried(0, 0), -1);
        due("13: nothing refused", x.about(0, 2), 0);
    }

    private static void promise14() {
        SandboxTree x = new SandboxTree(50);
        int i = at(x, "i");
        int a = at(x, "a");
        int ab = at(x, "ab");
        int c = at(x, "c");
        int d = at(x, "d");
        x.file(i, 1);
        due("14: no such ACTION", x.finish(0, false), -1);
        x.action();
        due("14: no WORLD", x.finish(0, false), -1);
        due("14: no WORLD, failed", x.finish(0, true), -1);
        x.declare(0, a, true);
        x.declare(0, i, false);
        x.declare(0, c, true);
        x.declare(0, d, true);
        x.begin(0);
        due("14: the first LACKING", x.finish(0, false), -10);
        due("14: it isn't there then", x.finish(0, false), -1);
        x.begin(0);
        x.write(0, ab, 2);
        due("14: the second LACKING, INPUTS not counted", x.finish(0, false), -12);
        x.begin(0);
        x.write(0, ab, 2);
        x.write(0, c, 3);
        due("14: the third LACKING", x.finish(0, false), -14);
        x.begin(0);
        x.write(0, ab, 2);
        x.link(0, c, ab);
        x.link(0, d, d);
        due("14: the third LOOSE", x.finish(0, false), -15);
        x.begin(0);
        x.link(0, ab, a);
        due("14: the first LOOSE before the second LACKING", x.finish(0, false), -11);
        x.begin(0);
        x.link(0, c, a);
        due("14: the first LACKING before the second LOOSE", x.finish(0, false), -10);
        x.begin(0);
        x.write(0, ab, 2);
        x.link(0, c, ab);
        x.link(0, d, i);
        due("14: failed", x.finish(0, true), 0);
        due("14: nothing came", x.source(ab), 0);
        x.begin(0);
        x.write(0, ab, 2);
        x.link(0, c, ab);
        x.link(0, d, i);
        x.file(i, 9);
        x.file(a, 7);
        due("14: all came", x.finish(0, false), 3);
        due("14: a FILE UNDER an OUTPUT went", x.source(a), 0);
        due("14: a FILE came", x.source(ab), 2);
        due("14: by a LINK from an OUTPUT", x.source(c), 2);
        due("14: by a LINK from an INPUT, as it was", x.source(d), 1);
        due("14: the rest stays", x.source(i), 9);
        allAtOnce();
        clashes();
        staysInTheWay();
        allFull();
    }

    /** What LINKS lead to is what the WORLD has, whichever OUTPUT is gathered first. */
    private static void allAtOnce() {
        SandboxTree x = new SandboxTree(50);
        int a = at(x, "a");
        int b = at(x, "b");
        int za = at(x, "za");
        x.file(a, 5);
        x.file(b, 6);
        x.action();
        x.declare(0, a, true);
        x.declare(0, b, true);
        x.begin(0);
        x.link(0, a, b);
        x.link(0, b, za);
        x.write(0, za, 8);
        due("14: all at once", x.finish(0, false), 2);
        due("14: a chain of LINKS", x.source(a), 8);
        due("14: its next", x.source(b), 8);
        due("14: SCRATCH doesn't come", x.source(za), 0);
        x.begin(0);
        x.write(0, a, 1);
        x.write(0, b, 2);
        x.strict(true);
        x.remove(0, za);
        due("14: failed before BROKEN", x.finish(0, true), 0);
        x.begin(0);
        x.remove(0, za);
        due("14: BROKEN before LACKING", x.finish(0, false), -2);
        due("14: it stays as it is", x.source(a), 8);
    }

    private static void clashes() {
        SandboxTree x = new SandboxTree(50);
        int ab = at(x, "ab");
        int other = at(x, "Ac");
        int o = at(x, "o");
        x.action();
        x.declare(0, ab, true);
        x.declare(0, other, true);
        x.begin(0);
        x.write(0, ab, 1);
        x.write(0, other, 1);
        due("14: what they are in CLASHES", x.finish(0, false), -3);
        due("14: nothing came of it", x.source(ab), 0);
        x.action();
        x.declare(1, o, true);
        x.begin(1);
        x.write(1, at(x, "ox"), 1);
        x.write(1, at(x, "oXy"), 1);
        due("14: a FILE with a folder", x.finish(1, false), -3);
        x.begin(1);
        x.write(1, at(x, "opx"), 1);
        x.write(1, at(x, "oqX"), 1);
        x.write(1, at(x, "zx"), 1);
        x.write(1, at(x, "zX"), 1);
        due("14: other parents, and SCRATCH, don't CLASH", x.finish(1, false), 2);
        x.begin(1);
        x.write(1, at(x, "opX"), 3);
        due("14: nor with what goes", x.finish(1, false), 1);
        due("14: it went", x.source(at(x, "opx")), 0);
        x.file(at(x, "O"), 1);
        x.begin(1);
        x.write(1, at(x, "op"), 3);
        due("14: nor with what stays in the SOURCE", x.finish(1, false), 1);
    }

    private static void staysInTheWay() {
        SandboxTree x = new SandboxTree(50);
        int a = at(x, "a");
        int abc = at(x, "abc");
        int abC = at(x, "abC");
        x.file(a, 3);
        x.action();
        x.declare(0, abc, true);
        x.declare(0, abC, true);
        x.begin(0);
        x.write(0, abc, 1);
        x.write(0, abC, 1);
        due("14: CLASHING before in the way", x.finish(0, false), -3);
        x.action();
        x.declare(1, abc, true);
        x.begin(1);
        x.write(1, abc, 1);
        due("14: a FILE far above is in the way", x.finish(1, false), -4);
        due("14: it stays", x.source(a), 3);
        due("14: nothing came in it", x.source(abc), 0);
        x.begin(1);
        x.write(1, abc, 1);
        x.file(a, 0);
        due("14: as it is by then", x.finish(1, false), 1);
    }

    /** Of all that the document bounds as much as there can be. */
    private static void allFull() {
        SandboxTree x = new SandboxTree(50);
        x.action();
        for (int n = 0; n < 12; n++) {
            x.declare(0, x.path(0, (char) ('a' + n)), true);
        }
        for (int n = 13; n < 60; n++) {
            x.path(n - 1, 'q');
        }
        x.begin(0);
        for (int n = 1; n < 12; n++) {
            x.write(0, n, n);
        }
        due("14: the deepest PATH of 60", x.write(0, 59, 5), 1);
        due("13: with 60 PATHS", x.list(0, 58, 0), 'q');
        due("13: none more with 60 PATHS", x.list(0, 59, 0), 0);
        due("14: twelve OUTPUTS", x.finish(0, false), 12);
        due("14: the last of them came", x.source(59), 5);
        x.begin(0);
        for (int n = 1; n < 12; n++) {
            x.write(0, n, n);
        }
        due("14: the twelfth OUTPUT LACKING", x.finish(0, false), -32);
        x.begin(0);
        for (int n = 1; n < 12; n++) {
            x.write(0, n, n);
        }
        x.link(0, 59, 58);
        due("14: the twelfth OUTPUT LOOSE", x.finish(0, false), -33);
    }

    private static void promise15() {
        SandboxTree x = new SandboxTree(500);
        due("15: no such ACTION", x.tried(0, 0), -1);
        x.action();
        due("15: no WORLD yet", x.tried(0, 0), -1);
        x.begin(0);
        due("15: nothing yet", x.tried(0, 0), -1);
        for (int n = 1; n < 60; n++) {
            x.path(n - 1, 'a');
        }
        for (int n = 59; n >= 0; n--) {
            x.open(0, n);
        }
        x.open(0, 7);
        for (int n = 0; n < 60; n++) {
            due("15: in order", x.tried(0, n), 59 - n);
        }
        due("15: after the last", x.tried(0, 60), -1);
        due("15: below 0", x.tried(0, -1), -1);
        due("15: highest", x.tried(0, Integer.MAX_VALUE), -1);
        due("15: lowest ACTION", x.tried(Integer.MIN_VALUE, 0), -1);
        x.finish(0, true);
        due("15: after its end", x.tried(0, 59), 0);
        x.begin(0);
        due("15: a new WORLD", x.tried(0, 0), -1);
        x.open(0, 7);
        due("15: TRIED anew", x.tried(0, 0), 7);
        x.action();
        due("15: of another ACTION", x.tried(1, 0), -1);
    }

    private static void promise16() {
        SandboxTree x = new SandboxTree(3);
        int o = at(x, "o");
        due("16: no such ACTION", x.about(0, 0), -1);
        due("16: below 0", x.about(-1, 1), -1);
        x.action();
        x.action();
        x.declare(0, o, true);
        due("16: no WORLD there", x.about(0, 0), 0);
        for (int what = 1; what <= 3; what++) {
            due("16: no WORLD yet", x.about(0, what), -1);
        }
        x.begin(0);
        due("16: there", x.about(0, 0), 1);
        for (int what = 1; what <= 3; what++) {
            due("16: at first", x.about(0, what), 0);
        }
        due("16: other what", x.about(0, 4), -1);
        due("16: what below 0", x.about(0, -1), -1);
        due("16: far what", x.about(0, Integer.MAX_VALUE), -1);
        x.write(0, o, 1);
        x.write(0, 0, 1);
        x.open(0, 0);
        due("16: OPERATIONS, refused ones too", x.about(0, 1), 3);
        due("16: refused", x.about(0, 2), 1);
        due("16: not BROKEN", x.about(0, 3), 0);
        x.open(0, 0);
        due("16: one too many isn't counted", x.about(0, 1), 3);
        due("16: BROKEN", x.about(0, 3), 1);
        x.finish(0, true);
        due("16: ended", x.about(0, 0), 0);
        due("16: OPERATIONS of the latest", x.about(0, 1), 3);
        due("16: refused of the latest", x.about(0, 2), 1);
        due("16: BROKEN of the latest", x.about(0, 3), 1);
        due("16: another ACTION had none", x.about(1, 1), -1);
        x.begin(0);
        due("16: anew", x.about(0, 1) + x.about(0, 2) + x.about(0, 3), 0);
    }

    public static void main(String[] args) {
        promise1();
        promise2();
        promise3();
        promise4();
        promise5();
        promise6();
        promise7();
        promise8();
        promise9();
        promise10();
        promise11();
        promise12();
        promise13();
        promise14();
        promise15();
        promise16();
        System.out.println(wrong == 0 ? "all answers are as due" : wrong + " answers are not as due");
        if (wrong != 0) {
            System.exit(1);
        }
    }
}
