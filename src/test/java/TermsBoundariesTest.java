/**
 * Each sentence of 'What it is' and of 'Terms' that names a boundary case has a test of its own here,
 * on new objects, and tells the document's words (a gap in them is '..') with every answer that isn't due.
 */
public final class TermsBoundariesTest {
    private static int wrong = 0;
    private static String sentence = "";

    private static void says(String words) {
        sentence = words;
    }

    private static void due(String call, int got, int want) {
        if (got != want) {
            wrong++;
            System.out.println("\"" + sentence + "\": " + call + " answered " + got + ", due is " + want);
        }
    }

    private static void due(String call, boolean got, boolean want) {
        due(call, got ? 1 : 0, want ? 1 : 0);
    }

    /** The PATH that these LETTERS lead to from the ROOT, made if it isn't there. */
    private static int at(SandboxTree x, String letters) {
        int path = 0;
        for (char letter : letters.toCharArray()) {
            path = x.path(path, letter);
        }
        return path;
    }

    /** An object whose ACTION 0 has these INPUTS, each a FILE with CONTENT 7, and these OUTPUTS. */
    private static SandboxTree declared(int limit, String inputs, String outputs) {
        SandboxTree x = new SandboxTree(limit);
        x.action();
        for (String input : inputs.split(" ")) {
            if (!input.isEmpty()) {
                x.file(at(x, input), 7);
                x.declare(0, at(x, input), false);
            }
        }
        for (String output : outputs.split(" ")) {
            if (!output.isEmpty()) {
                x.declare(0, at(x, output), true);
            }
        }
        return x;
    }

    /** The same, with the WORLD of ACTION 0 begun. */
    private static SandboxTree begun(int limit, String inputs, String outputs) {
        SandboxTree x = declared(limit, inputs, outputs);
        x.begin(0);
        return x;
    }

    // What it is

    private static void seesWhatItDeclared() {
        says("each sees just what it declared");
        SandboxTree x = declared(50, "i", "o");
        int r = at(x, "r");
        x.file(r, 5);
        x.file(at(x, "o"), 6);
        due("begin", x.begin(0), 1);
        due("open an INPUT", x.open(0, at(x, "i")), 7);
        due("open what isn't DECLARED", x.open(0, r), 0);
        due("open an OUTPUT that the SOURCE has", x.open(0, at(x, "o")), 0);
        due("list the first", x.list(0, 0, 0), 'i');
        due("list no second", x.list(0, 0, 1), 0);
    }

    private static void writesWhatItDeclared() {
        says("writes just what it declared");
        SandboxTree x = begun(50, "i", "o");
        int r = at(x, "r");
        x.file(r, 5);
        due("write elsewhere", x.write(0, r, 1), 0);
        due("link elsewhere", x.link(0, r, at(x, "i")), 0);
        due("remove elsewhere", x.remove(0, r), 0);
        due("write an INPUT", x.write(0, at(x, "i"), 1), 0);
        due("write an OUTPUT", x.write(0, at(x, "o"), 1), 1);
        due("finish", x.finish(0, false), 1);
        due("the rest of the SOURCE", x.source(r), 5);
        due("the INPUT", x.source(at(x, "i")), 7);
    }

    private static void scratchOfItsOwn() {
        says("has scratch of its own");
        SandboxTree x = begun(50, "", "o");
        int za = at(x, "za");
        x.action();
        x.begin(1);
        due("write in the one", x.write(0, za, 1), 1);
        due("open in the other", x.open(1, za), 0);
        due("list in the other", x.list(1, 0, 0), 0);
        due("write in the other", x.write(1, za, 2), 1);
        due("open in the one", x.open(0, za), 1);
        due("remove in the other", x.remove(1, za), 1);
        due("open in the one then", x.open(0, za), 1);
        due("the other ends", x.finish(1, false), 0);
        due("open in the one after that", x.open(0, za), 1);
    }

    private static void whatElseIsTold() {
        says("what else it tries is told");
        SandboxTree x = begun(50, "i", "o");
        int r = at(x, "r");
        x.open(0, at(x, "i"));
        x.open(0, r);
        due("tried", x.tried(0, 0), r);
        due("no other", x.tried(0, 1), -1);
        x.write(0, r, 1);
        due("refused", x.about(0, 2), 1);
    }

    private static void linksStayInside() {
        says("links stay inside");
        SandboxTree x = begun(50, "i", "o");
        int o = at(x, "o");
        x.file(at(x, "r"), 5);
        due("to what isn't DECLARED", x.link(0, o, at(x, "r")), 0);
        due("to the ROOT", x.link(0, o, 0), 0);
        due("to z", x.link(0, o, at(x, "z")), 0);
        due("from elsewhere", x.link(0, at(x, "r"), at(x, "i")), 0);
        due("nothing is there", x.open(0, o), 0);
    }

    private static void gatheredAtTheEnd() {
        says("outputs are gathered at the end or what lacks is told");
        SandboxTree x = begun(50, "", "o p");
        int o = at(x, "o");
        x.write(0, o, 3);
        due("not before", x.source(o), 0);
        due("what lacks", x.finish(0, false), -12);
        due("nothing came", x.source(o), 0);
        x.begin(0);
        x.write(0, o, 3);
        x.write(0, at(x, "p"), 4);
        due("all", x.finish(0, false), 2);
        due("then", x.source(o), 3);
    }

    private static void nothingElseStays() {
        says("nothing else stays behind");
        SandboxTree x = begun(50, "", "o");
        int o = at(x, "o");
        int za = at(x, "za");
        for (int time = 0; time < 3; time++) {
            x.write(0, o, 3);
            x.write(0, za, 4);
            x.link(0, at(x, "zb"), za);
            due("finish", x.finish(0, time == 0), time == 0 ? 0 : 1);
            due("SCRATCH in the SOURCE", x.source(za), 0);
            due("a LINK of SCRATCH in the SOURCE", x.source(at(x, "zb")), 0);
            due("begin", x.begin(0), 0);
            due("SCRATCH in the next WORLD", x.open(0, za), 0);
            due("the OUTPUT in the next WORLD", x.open(0, o), 0);
            due("anything in the next WORLD", x.list(0, 0, 0), 0);
        }
        due("what failed isn't in the SOURCE, what didn't is", x.source(o), 3);
    }

    private static void atMost512Calls() {
        says("An object is used for at most 512 calls");
        SandboxTree x = new SandboxTree(500);
        int o = x.path(0, 'o');
        x.action();
        x.declare(0, o, true);
        x.begin(0);
        for (int n = 1; n <= 500; n++) {
            due("write", x.write(0, o, n), 1);
        }
        due("call 505", x.write(0, o, 501), -9);
        due("call 506", x.about(0, 1), 500);
        due("call 507", x.about(0, 3), 1);
        due("call 508", x.finish(0, false), -2);
        due("call 509", x.begin(0), 0);
        due("call 510", x.write(0, o, 9), 1);
        due("call 511", x.finish(0, false), 1);
        due("call 512", x.source(o), 9);
    }

    // PATHS

    private static void sixtyPaths() {
        says("PATHS, at most 60, numbered from 0");
        SandboxTree x = new SandboxTree(5);
        for (int n = 1; n < 60; n++) {
            due("path", x.path((n - 1) / 2, n % 2 == 0 ? 'a' : 'b'), n);
        }
        due("a 61st", x.path(0, 'c'), -1);
        due("a 61st elsewhere", x.path(59, 'a'), -1);
        due("the 60th has a FILE", x.file(59, 4), true);
        due("it is there", x.source(59), 4);
        due("the 61st hasn't", x.file(60, 4), false);
    }

    private static void theLastOfSixty() {
        says("PATHS, at most 60");
        SandboxTree x = declared(50, "i", "o");
        int o = at(x, "o");
        for (int n = 3; n < 58; n++) {
            x.path(n == 3 ? 0 : n - 1, 'q');
        }
        due("the 59th", x.path(o, 'x'), 58);
        due("the 60th", x.path(o, 'X'), 59);
        x.begin(0);
        due("it can be TRIED", x.open(0, 59), 0);
        due("it was TRIED", x.tried(0, 0), 59);
        x.link(0, 59, 58);
        due("it can be listed", x.list(0, o, 0), 'X');
        due("it can be LOOSE", x.finish(0, false), -11);
        x.begin(0);
        x.write(0, 58, 3);
        x.write(0, 59, 4);
        due("it can CLASH", x.finish(0, false), -3);
        x.begin(0);
        x.write(0, 59, 4);
        due("it can be in the way", x.write(0, o, 4), 0);
        due("it can come", x.finish(0, false), 1);
        due("it came", x.source(59), 4);
        x.action();
        x.declare(1, 59, false);
        due("it can be an INPUT", x.begin(1), 1);
        due("it is seen", x.open(1, 59), 4);
        x.begin(0);
        x.write(0, 58, 3);
        due("it can go", x.finish(0, false), 1);
        due("it went", x.source(59), 0);
    }

    private static void theRoot() {
        says("0 is the ROOT");
        SandboxTree x = begun(50, "", "o");
        due("no FILE", x.file(0, 1), false);
        due("none to take away", x.file(0, 0), false);
        due("no CONTENT", x.source(0), 0);
        due("it can be tried", x.open(0, 0), 0);
        due("it was tried", x.tried(0, 0), 0);
        due("nothing can be there", x.write(0, 0, 1), 0);
        due("no LINK either", x.link(0, 0, at(x, "o")), 0);
        due("nothing goes from there", x.remove(0, 0), 0);
        x.write(0, at(x, "o"), 1);
        due("it can be listed", x.list(0, 0, 0), 'o');
    }

    private static void letters() {
        says("any other one is a LETTER (a to z, A to Z) in another PATH");
        SandboxTree x = new SandboxTree(5);
        int next = 1;
        for (char letter = 'a'; letter <= 'z'; letter++) {
            due("small", x.path(0, letter), next++);
        }
        for (char letter = 'A'; letter <= 'Z'; letter++) {
            due("capital", x.path(0, letter), next++);
        }
        for (char letter = 'a'; letter <= 'z'; letter++) {
            due("small again", x.path(0, letter), 1 + letter - 'a');
            due("capital again", x.path(0, (char) (letter - 32)), 27 + letter - 'a');
        }
        due("the same LETTER in another PATH", x.path(1, 'a'), 53);
    }

    private static void clashingLetters() {
        says("CLASHING are two PATHS with one PARENT whose LETTERS differ in case alone");
        SandboxTree x = declared(50, "", "o");
        for (char letter = 'a'; letter <= 'z'; letter++) {
            x.begin(0);
            x.write(0, x.path(1, letter), 1);
            x.write(0, x.path(1, (char) (letter - 32)), 1);
            due("both cases of " + letter, x.finish(0, false), -3);
        }
        x.begin(0);
        for (char letter = 'a'; letter <= 'z'; letter++) {
            x.write(0, x.path(1, letter % 2 == 0 ? letter : (char) (letter - 32)), 1);
        }
        due("each of 26 in one case", x.finish(0, false), 26);
        x = begun(50, "", "o");
        x.write(0, at(x, "opx"), 1);
        x.write(0, at(x, "oqX"), 1);
        due("with two PARENTS", x.finish(0, false), 2);
    }

    private static void underIsItself() {
        says("UNDER a PATH are it");
        SandboxTree x = declared(50, "i", "o");
        due("a FILE at an INPUT", x.begin(0), 1);
        due("a FILE at an OUTPUT", x.write(0, at(x, "o"), 1), 1);
        due("a LINK to an INPUT", x.link(0, at(x, "o"), at(x, "i")), 1);
        due("an OUTPUT that is a LINK", x.finish(0, false), 1);
        due("came", x.source(at(x, "o")), 7);
    }

    private static void underIsAllInIt() {
        says("and all PATHS in PATHS that are UNDER it");
        SandboxTree x = new SandboxTree(50);
        for (int n = 1; n < 59; n++) {
            x.path(n - 1, 'q');
        }
        int o = x.path(0, 'o');
        x.file(58, 4);
        x.action();
        x.action();
        x.declare(0, 1, false);
        x.declare(0, o, true);
        due("a FILE at depth 58 of an INPUT", x.begin(0), 1);
        due("open it", x.open(0, 58), 4);
        due("a LINK to depth 57", x.link(0, o, 57), 1);
        due("list at depth 57", x.list(0, 57, 0), 'q');
        due("list the ROOT", x.list(0, 0, 1), 'q');
        x.declare(1, 1, true);
        x.begin(1);
        due("write at depth 58 of an OUTPUT", x.write(1, 58, 5), 1);
        due("comes", x.finish(1, false), 1);
        due("came", x.source(58), 5);
        x.begin(1);
        x.write(1, 1, 6);
        due("what is at depth 58 goes", x.finish(1, false), 1);
        due("went", x.source(58), 0);
    }

    private static void underIsNothingBeside() {
        says("UNDER a PATH are it, and all PATHS in PATHS that are UNDER it");
        SandboxTree x = declared(50, "ab", "ob");
        x.file(at(x, "ac"), 1);
        x.file(at(x, "ba"), 1);
        x.file(at(x, "Ab"), 1);
        due("what is beside an INPUT isn't there", x.begin(0), 1);
        due("a PATH that an OUTPUT is in", x.write(0, at(x, "o"), 1), 0);
        due("a PATH beside an OUTPUT", x.write(0, at(x, "oc"), 1), 0);
        due("the other case", x.write(0, at(x, "oB"), 1), 0);
        due("the same LETTER in the ROOT", x.write(0, at(x, "b"), 1), 0);
        due("LINK to a PATH that an INPUT is in", x.link(0, at(x, "ob"), at(x, "a")), 0);
        due("LINK to a PATH beside an INPUT", x.link(0, at(x, "ob"), at(x, "ac")), 0);
    }

    private static void contentAboveNothing() {
        says("CONTENT (an int above 0)");
        SandboxTree x = begun(50, "", "o");
        int a = at(x, "a");
        int o = at(x, "o");
        due("file 1", x.file(a, 1), true);
        due("source 1", x.source(a), 1);
        due("file highest", x.file(a, Integer.MAX_VALUE), true);
        due("source highest", x.source(a), Integer.MAX_VALUE);
        due("file - 1", x.file(a, -1), false);
        due("file lowest", x.file(a, Integer.MIN_VALUE), false);
        due("source still", x.source(a), Integer.MAX_VALUE);
        due("write 1", x.write(0, o, 1), 1);
        due("open 1", x.open(0, o), 1);
        due("write highest", x.write(0, o, Integer.MAX_VALUE), 1);
        due("open highest", x.open(0, o), Integer.MAX_VALUE);
        due("write 0", x.write(0, o, 0), 0);
        due("write - 1", x.write(0, o, -1), 0);
        due("write lowest", x.write(0, o, Integer.MIN_VALUE), 0);
        due("finish", x.finish(0, false), 1);
        due("source of it", x.source(o), Integer.MAX_VALUE);
    }

    // ACTIONS

    private static void tenActions() {
        says("ACTIONS, at most 10, numbered from 0");
        SandboxTree x = new SandboxTree(5);
        int o = at(x, "o");
        for (int n = 0; n < 10; n++) {
            due("action", x.action(), n);
            due("declare", x.declare(n, o, true), 1);
            due("begin", x.begin(n), 0);
            due("write", x.write(n, o, n + 1), 1);
        }
        due("an 11th", x.action(), -1);
        for (int n = 0; n < 10; n++) {
            due("each has a WORLD of its own", x.open(n, o), n + 1);
        }
        due("the first ends", x.finish(0, false), 1);
        due("what it had came", x.source(o), 1);
        due("the tenth ends", x.finish(9, false), 1);
        due("what that had came", x.source(o), 10);
    }

    private static void twelveTogether() {
        says("at most 12 together");
        for (int inputs = 0; inputs <= 12; inputs++) {
            SandboxTree x = new SandboxTree(5);
            x.action();
            x.action();
            for (int n = 0; n < 12; n++) {
                due("declare", x.declare(0, x.path(0, (char) ('a' + n)), n >= inputs), 1);
            }
            int m = x.path(0, 'm');
            due("a 13th, INPUT", x.declare(0, m, false), -1);
            due("a 13th, OUTPUT", x.declare(0, m, true), -1);
            due("of another ACTION", x.declare(1, m, true), 1);
        }
    }

    private static void declaredApart(boolean first, boolean second) {
        SandboxTree x = new SandboxTree(5);
        int ab = at(x, "ab");
        int abcd = at(x, "abcd");
        x.action();
        due("the first", x.declare(0, ab, first), 1);
        due("itself", x.declare(0, ab, second), -2);
        due("in it", x.declare(0, at(x, "abc"), second), -2);
        due("deep in it", x.declare(0, abcd, second), -2);
        due("what it is in", x.declare(0, at(x, "a"), second), -2);
        due("beside it", x.declare(0, at(x, "ac"), second), 1);
        due("beside it in the other case", x.declare(0, at(x, "aB"), second), 1);
        x.action();
        due("the deep one in another ACTION", x.declare(1, abcd, first), 1);
        due("what that is in, far above", x.declare(1, at(x, "a"), second), -2);
    }

    private static void noOutputUnder() {
        says("no OUTPUT is UNDER an INPUT or another OUTPUT");
        declaredApart(false, true);
        declaredApart(true, true);
    }

    private static void noInputUnder() {
        says("no INPUT UNDER an OUTPUT or another INPUT");
        declaredApart(true, false);
        declaredApart(false, false);
    }

    private static void noneIsTheRoot() {
        says("none is the ROOT");
        SandboxTree x = new SandboxTree(5);
        x.action();
        due("an INPUT", x.declare(0, 0, false), -1);
        due("an OUTPUT", x.declare(0, 0, true), -1);
        x.declare(0, at(x, "a"), true);
        due("with one DECLARED", x.declare(0, 0, true), -1);
        x.begin(0);
        due("it isn't WRITABLE", x.write(0, at(x, "b"), 1), 0);
    }

    // WORLDS

    private static void filesAsTheyAreThen() {
        says("it has the FILES of the SOURCE, as they are then");
        SandboxTree x = declared(50, "i", "o");
        int i = at(x, "i");
        x.file(i, 8);
        due("changed before", x.begin(0), 1);
        due("is seen", x.open(0, i), 8);
        x.file(i, 9);
        due("changed after", x.open(0, i), 8);
        x.file(i, 0);
        due("gone after", x.open(0, i), 8);
        int ij = at(x, "ij");
        x.file(ij, 3);
        due("come after", x.open(0, ij), 0);
        x.finish(0, true);
        due("the next WORLD", x.begin(0), 1);
        due("has what came", x.open(0, ij), 3);
        due("and not what went", x.open(0, i), 0);
    }

    private static void filesUnderInputs() {
        says("that are at PATHS UNDER its INPUTS");
        SandboxTree x = declared(50, "", "o");
        x.file(at(x, "op"), 1);
        x.file(at(x, "r"), 2);
        x.file(at(x, "za"), 3);
        due("no INPUTS, no FILES", x.begin(0), 0);
        due("none of an OUTPUT", x.open(0, at(x, "op")), 0);
        due("none of SCRATCH", x.open(0, at(x, "za")), 0);
        due("none at all", x.list(0, 0, 0), 0);
        x = declared(50, "ia ib ic", "o");
        x.file(at(x, "id"), 3);
        due("each of three INPUTS", x.begin(0), 3);
    }

    private static void filesAndLinks() {
        says("in it are FILES, and LINKS to PATHS");
        SandboxTree x = begun(50, "i", "o");
        int o = at(x, "o");
        int za = at(x, "za");
        x.link(0, o, za);
        due("a LINK to a PATH where nothing is", x.open(0, o), 0);
        x.write(0, za, 1);
        due("a LINK is to a PATH, not to what was there", x.open(0, o), 1);
        x.write(0, za, 2);
        due("what is there anew", x.open(0, o), 2);
        x.remove(0, za);
        due("when it is gone", x.open(0, o), 0);
        due("the LINK is still there", x.remove(0, o), 1);
    }

    private static void writableUnderAnOutput() {
        says("A PATH is WRITABLE if it is UNDER an OUTPUT");
        SandboxTree x = begun(50, "i", "op");
        due("the OUTPUT", x.write(0, at(x, "op"), 1), 1);
        x.remove(0, at(x, "op"));
        due("deep in it, by PATHS that came since", x.write(0, at(x, "opqrs"), 1), 1);
        due("what it is in", x.write(0, at(x, "o"), 1), 0);
        due("an INPUT", x.remove(0, at(x, "i")), 0);
        due("in an INPUT", x.write(0, at(x, "ij"), 1), 0);
        x.action();
        x.begin(1);
        due("an OUTPUT of another ACTION", x.write(1, at(x, "op"), 1), 0);
    }

    private static void scratchUnderZ() {
        says("or SCRATCH: UNDER the PATH z in the ROOT");
        SandboxTree x = begun(50, "", "o");
        due("before z there is none", x.write(0, at(x, "a"), 1), 0);
        due("in z, which came after begin", x.write(0, at(x, "za"), 1), 1);
        due("deep in z", x.write(0, at(x, "zbcde"), 1), 1);
        due("Z", x.write(0, at(x, "Za"), 1), 0);
        due("a z that isn't in the ROOT", x.write(0, at(x, "azb"), 1), 0);
        due("y", x.write(0, at(x, "ya"), 1), 0);
        due("a LINK to SCRATCH", x.link(0, at(x, "o"), at(x, "zf")), 1);
        due("a z in z", x.write(0, at(x, "zz"), 1), 1);
    }

    private static void zItself() {
        says("but not that one itself");
        SandboxTree x = begun(50, "", "o");
        int z = at(x, "z");
        due("write", x.write(0, z, 1), 0);
        due("link", x.link(0, z, at(x, "za")), 0);
        due("a LINK to it", x.link(0, at(x, "za"), z), 0);
        due("remove", x.remove(0, z), 0);
        SandboxTree y = begun(50, "", "z");
        due("but as an OUTPUT", y.write(0, at(y, "z"), 1), 1);
    }

    private static void scratchNotUnderAnInput() {
        says("and not UNDER an INPUT");
        SandboxTree x = begun(50, "zab", "o");
        due("the INPUT", x.write(0, at(x, "zab"), 1), 0);
        due("its FILE stays", x.remove(0, at(x, "zab")), 0);
        due("in the INPUT", x.link(0, at(x, "zabc"), at(x, "o")), 0);
        due("beside it", x.write(0, at(x, "zac"), 1), 1);
        SandboxTree y = declared(50, "", "o");
        y.file(at(y, "zab"), 7);
        y.declare(0, at(y, "z"), false);
        y.begin(0);
        due("with z as an INPUT there is none", y.write(0, at(y, "zc"), 1), 0);
        due("but it can be linked to", y.link(0, at(y, "o"), at(y, "z")), 1);
    }

    private static int operate(SandboxTree x, int kind) {
        switch (kind) {
            case 0:
                return x.open(0, 1);
            case 1:
                return x.write(0, 1, 1);
            case 2:
                return x.link(0, 1, 1);
            case 3:
                return x.remove(0, 1);
            default:
                return x.list(0, 1, 0);
        }
    }

    private static void eachIsAnOperation() {
        says("is an OPERATION (open, write, link, remove, list): at most LIMIT");
        for (int kind = 0; kind < 5; kind++) {
            SandboxTree x = begun(3, "", "o");
            for (int n = 1; n <= 3; n++) {
                due("of kind " + kind + " within LIMIT", operate(x, kind) >= 0, true);
                due("counted of kind " + kind, x.about(0, 1), n);
            }
            due("not BROKEN at LIMIT, kind " + kind, x.about(0, 3), 0);
        }
    }

    private static void oneMoreIsRefused() {
        says("one more is refused (- 9), and the ACTION is BROKEN");
        for (int kind = 0; kind < 5; kind++) {
            SandboxTree x = begun(1, "", "o");
            x.action();
            x.begin(1);
            x.write(0, 1, 5);
            due("one more of kind " + kind, operate(x, kind), -9);
            due("BROKEN by kind " + kind, x.about(0, 3), 1);
            due("not the other ACTION", x.about(1, 3), 0);
            due("nor its OPERATIONS", x.open(1, 1), 0);
            due("and once more", operate(x, kind), -9);
            due("finish", x.finish(0, false), -2);
            due("nothing came", x.source(1), 0);
        }
    }

    private static void othersAreNoOperations() {
        says("What an ACTION does in its WORLD is an OPERATION");
        SandboxTree x = begun(1, "", "o");
        x.path(0, 'a');
        x.file(2, 1);
        x.source(2);
        x.strict(false);
        x.action();
        x.declare(0, 2, true);
        x.begin(0);
        x.tried(0, 0);
        x.about(0, 1);
        due("none so far", x.about(0, 1), 0);
        due("the first", x.write(0, 1, 4), 1);
        due("finish is none", x.finish(0, false), 1);
    }

    // LEADS

    /** PATHS za, zb, .. each with a LINK to the one before, the first with one to an INPUT's FILE. */
    private static SandboxTree chain(int links) {
        SandboxTree x = begun(50, "i", "o");
        int before = at(x, "i");
        for (int n = 0; n < links; n++) {
            int next = at(x, "z" + (char) ('a' + n));
            x.link(0, next, before);
            before = next;
        }
        return x;
    }

    private static void atMostFourLinks() {
        says("or a LINK is there to a PATH that LEADS to one (at most 4 LINKS)");
        for (int links = 1; links <= 6; links++) {
            SandboxTree x = chain(links);
            int last = at(x, "z" + (char) ('a' + links - 1));
            due("after " + links + " LINKS", x.open(0, last), links <= 4 ? 7 : 0);
            due("TRIED", x.tried(0, 0), links <= 4 ? -1 : last);
        }
        SandboxTree x = begun(50, "i", "o");
        due("no LINK", x.open(0, at(x, "i")), 7);
    }

    private static void chainsThatCome() {
        says("(at most 4 LINKS) .. LOOSE one UNDER which a LINK is that doesn't LEAD to a FILE");
        for (int links = 3; links <= 4; links++) {
            SandboxTree x = chain(links);
            x.link(0, at(x, "o"), at(x, "z" + (char) ('a' + links - 1)));
            due("by " + (links + 1) + " LINKS", x.finish(0, false), links == 3 ? 1 : -11);
            due("what came", x.source(at(x, "o")), links == 3 ? 7 : 0);
        }
    }

    private static void ringsOfLinks() {
        says("a LINK is there to a PATH that LEADS to one");
        for (int ring = 1; ring <= 7; ring++) {
            SandboxTree x = begun(50, "", "o");
            for (int n = 0; n < ring; n++) {
                int next = at(x, "o" + (char) ('a' + (n + 1) % ring));
                due("link", x.link(0, at(x, "o" + (char) ('a' + n)), next), 1);
            }
            due("a ring of " + ring, x.open(0, at(x, "oa")), 0);
            due("is LOOSE", x.finish(0, false), -11);
        }
    }

    private static void noLinkOnTheWay() {
        says("A PATH LEADS to a FILE if the FILE is there");
        SandboxTree x = declared(50, "", "o");
        x.file(at(x, "ij"), 7);
        x.declare(0, at(x, "i"), false);
        x.begin(0);
        x.link(0, at(x, "o"), at(x, "i"));
        due("a LINK to a PATH in which a FILE is", x.open(0, at(x, "o")), 0);
        due("a PATH in a LINK", x.open(0, at(x, "oj")), 0);
        due("a PATH in which a FILE is", x.open(0, at(x, "i")), 0);
        due("a PATH in a FILE", x.open(0, at(x, "ijk")), 0);
        due("a LINK has nothing in it", x.list(0, at(x, "o"), 0), 0);
    }

    // What can be where

    private static void nothingInWhatIsThere() {
        says("if something (a FILE or LINK) is at a PATH that it is in, at any depth");
        for (int kind = 0; kind < 2; kind++) {
            SandboxTree x = begun(50, "i", "o");
            int op = at(x, "op");
            int i = at(x, "i");
            due("something", kind == 0 ? x.write(0, op, 1) : x.link(0, op, i), 1);
            due("a FILE in it", x.write(0, at(x, "opq"), 1), 0);
            due("a LINK in it", x.link(0, at(x, "opq"), i), 0);
            due("a FILE deep in it", x.write(0, at(x, "opqrst"), 1), 0);
            due("a LINK deep in it", x.link(0, at(x, "opqrst"), i), 0);
            due("beside it", x.write(0, at(x, "oq"), 1), 1);
            due("when it is gone", x.remove(0, op), 1);
            due("deep in it then", x.write(0, at(x, "opqrst"), 1), 1);
        }
    }

    private static void nothingRoundWhatIsThere() {
        says("and nothing at a PATH in which, at any depth, something is");
        for (int kind = 0; kind < 2; kind++) {
            SandboxTree x = begun(50, "i", "o");
            int deep = at(x, "opqrs");
            int i = at(x, "i");
            due("something", kind == 0 ? x.write(0, deep, 1) : x.link(0, deep, i), 1);
            for (String above : new String[] {"o", "op", "opq", "opqr"}) {
                due("a FILE above at " + above, x.write(0, at(x, above), 1), 0);
                due("a LINK above at " + above, x.link(0, at(x, above), i), 0);
            }
            due("beside it", x.write(0, at(x, "opqrt"), 1), 1);
            due("in its place", x.write(0, deep, 2), 1);
            x.remove(0, deep);
            due("the other is still there", x.write(0, at(x, "o"), 1), 0);
            x.remove(0, at(x, "opqrt"));
            due("when all is gone", x.write(0, at(x, "o"), 1), 1);
        }
    }

    private static void theWorldAloneIsInTheWay() {
        says("In a WORLD nothing can be at a PATH if something (a FILE or LINK) is");
        SandboxTree x = declared(50, "zabc", "o zd");
        x.file(at(x, "o"), 3);
        x.begin(0);
        due("the SOURCE's FILE isn't in the WORLD", x.write(0, at(x, "op"), 1), 1);
        due("an INPUT's FILE is, in SCRATCH", x.write(0, at(x, "za"), 1), 0);
        due("and nearer", x.write(0, at(x, "zab"), 1), 0);
        due("the SOURCE's FILE is in the SOURCE's way", x.file(at(x, "opq"), 1), false);
        x.file(at(x, "o"), 0);
        due("the WORLD's FILE isn't", x.file(at(x, "opq"), 1), true);
        SandboxTree y = begun(50, "", "zab");
        due("SCRATCH that an OUTPUT is in", y.write(0, at(y, "za"), 1), 1);
        due("is in its way", y.write(0, at(y, "zab"), 1), 0);
        due("which LACKS then", y.finish(0, false), -10);
    }

    // DONE

    private static void inOrderOfDeclaring() {
        says("at the end OUTPUTS are gone through in the order in which they were declared");
        SandboxTree x = new SandboxTree(50);
        int a = at(x, "a");
        int b = at(x, "b");
        int c = at(x, "c");
        x.action();
        x.declare(0, c, true);
        x.declare(0, a, true);
        x.declare(0, b, true);
        x.begin(0);
        x.write(0, a, 1);
        x.write(0, b, 1);
        due("the first declared, c", x.finish(0, false), -10);
        x.begin(0);
        x.write(0, c, 1);
        x.write(0, b, 1);
        due("the second declared, a", x.finish(0, false), -12);
        x.begin(0);
        x.write(0, c, 1);
        x.write(0, a, 1);
        due("the third declared, b", x.finish(0, false), -14);
    }

    private static void lacking() {
        says("LACKING is one UNDER which no FILE or LINK is");
        SandboxTree x = begun(50, "i", "o");
        int o = at(x, "o");
        x.file(o, 9);
        due("a FILE of the SOURCE is none", x.finish(0, false), -10);
        due("which stays", x.source(o), 9);
        x.begin(0);
        x.write(0, o, 1);
        x.remove(0, o);
        due("one that is gone is none", x.finish(0, false), -10);
        x.begin(0);
        x.write(0, at(x, "zo"), 1);
        due("one of SCRATCH is none", x.finish(0, false), -10);
        x.begin(0);
        x.link(0, at(x, "opqr"), at(x, "i"));
        due("a LINK deep in it is one", x.finish(0, false), 1);
        SandboxTree y = begun(50, "i", "");
        due("no OUTPUTS, none LACKING", y.finish(0, false), 0);
    }

    private static void loose() {
        says("LOOSE one UNDER which a LINK is that doesn't LEAD to a FILE");
        SandboxTree x = begun(50, "i", "o p");
        x.write(0, at(x, "oa"), 1);
        x.link(0, at(x, "ob"), at(x, "i"));
        x.link(0, at(x, "ocde"), at(x, "ij"));
        x.write(0, at(x, "p"), 1);
        due("one deep in it among good ones", x.finish(0, false), -11);
        x.begin(0);
        x.write(0, at(x, "oa"), 1);
        x.link(0, at(x, "p"), at(x, "o"));
        due("a LINK to a PATH in which a FILE is", x.finish(0, false), -13);
        x.begin(0);
        x.write(0, at(x, "o"), 1);
        x.link(0, at(x, "za"), at(x, "zb"));
        x.link(0, at(x, "p"), at(x, "za"));
        due("by a LINK of SCRATCH", x.finish(0, false), -13);
        x.begin(0);
        x.write(0, at(x, "o"), 1);
        x.write(0, at(x, "p"), 1);
        x.link(0, at(x, "za"), at(x, "zb"));
        due("one of SCRATCH is nobody's", x.finish(0, false), 2);
        x.begin(0);
        x.write(0, at(x, "zc"), 1);
        x.link(0, at(x, "o"), at(x, "zc"));
        x.write(0, at(x, "p"), 1);
        x.remove(0, at(x, "zc"));
        due("to one that is gone", x.finish(0, false), -11);
    }

    private static int finishWith(String inputs, String outputs, String written) {
        SandboxTree x = begun(50, inputs, outputs);
        for (String path : written.split(" ")) {
            due("write " + path, x.write(0, at(x, path), 1), 1);
        }
        return x.finish(0, false);
    }

    private static void clashing() {
        says("CLASHING if two PATHS with something, UNDER OUTPUTS, or what they are in, CLASH");
        due("two FILES", finishWith("", "o", "oa oA"), -3);
        due("two OUTPUTS", finishWith("", "a A", "a A"), -3);
        due("a FILE with what another is in", finishWith("", "o", "oa oAb"), -3);
        due("what both are in", finishWith("", "o", "oab oAc"), -3);
        due("what both are in, far above", finishWith("", "abcd Aefg", "abcd Aefg"), -3);
        due("an OUTPUT with what another OUTPUT is in", finishWith("", "a Ab", "a Ab"), -3);
        due("deep in two folders", finishWith("", "o", "oabc oabC"), -3);
        due("other LETTERS", finishWith("", "o", "oa oB"), 2);
        due("other PARENTS", finishWith("", "o p", "oa pA"), 2);
        due("the PARENT with what is in it", finishWith("", "a", "aA"), 1);
        due("SCRATCH", finishWith("", "o", "o za zA"), 1);
        due("SCRATCH with an OUTPUT", finishWith("", "Z", "Z za"), 1);
        due("an INPUT with an OUTPUT", finishWith("o", "O", "O"), 1);
        due("what an INPUT is in", finishWith("ab", "Ab", "Ab"), 1);
    }

    private static void clashingByLinks() {
        says("two PATHS with something");
        SandboxTree x = begun(50, "i", "o");
        x.link(0, at(x, "oa"), at(x, "i"));
        x.link(0, at(x, "oA"), at(x, "i"));
        due("two LINKS", x.finish(0, false), -3);
        x.begin(0);
        x.write(0, at(x, "oa"), 1);
        x.link(0, at(x, "oA"), at(x, "oa"));
        due("a FILE and a LINK", x.finish(0, false), -3);
        x.begin(0);
        x.write(0, at(x, "oa"), 1);
        x.write(0, at(x, "oA"), 1);
        x.remove(0, at(x, "oa"));
        due("one that is gone", x.finish(0, false), 1);
        x.begin(0);
        x.write(0, at(x, "oa"), 1);
        due("one that was in the SOURCE and goes", x.finish(0, false), 1);
        x.file(at(x, "O"), 2);
        x.begin(0);
        x.write(0, at(x, "oa"), 1);
        due("one in the SOURCE that stays", x.finish(0, false), 1);
    }

    private static void whatWasGoes() {
        says("of all PATHS UNDER OUTPUTS what was in the SOURCE goes");
        SandboxTree x = declared(50, "i", "o p");
        x.file(at(x, "oabc"), 2);
        x.file(at(x, "od"), 3);
        x.file(at(x, "p"), 4);
        x.file(at(x, "q"), 5);
        x.begin(0);
        x.write(0, at(x, "oe"), 6);
        x.write(0, at(x, "pf"), 8);
        x.file(at(x, "og"), 9);
        due("finish", x.finish(0, false), 2);
        due("deep in an OUTPUT", x.source(at(x, "oabc")), 0);
        due("beside what came", x.source(at(x, "od")), 0);
        due("at an OUTPUT", x.source(at(x, "p")), 0);
        due("what came to the SOURCE since begin", x.source(at(x, "og")), 0);
        due("what came", x.source(at(x, "oe")), 6);
        due("what came to the second", x.source(at(x, "pf")), 8);
        due("what is UNDER no OUTPUT", x.source(at(x, "q")), 5);
        due("an INPUT", x.source(at(x, "i")), 7);
    }

    private static void filesAloneCome() {
        says("what each FILE or LINK there LEADS to comes (FILES alone");
        SandboxTree x = begun(50, "i", "o p");
        x.link(0, at(x, "o"), at(x, "i"));
        x.link(0, at(x, "p"), at(x, "o"));
        due("finish", x.finish(0, false), 2);
        due("by a LINK", x.source(at(x, "o")), 7);
        due("by two", x.source(at(x, "p")), 7);
        x.file(at(x, "i"), 8);
        due("no LINK came", x.source(at(x, "o")), 7);
        due("it is a FILE of its own", x.file(at(x, "p"), 0), true);
        due("apart from the other", x.source(at(x, "o")), 7);
    }

    private static void asByThen() {
        says("as by then, all of them at once");
        SandboxTree x = declared(50, "i", "a b c d");
        int[] outputs = {at(x, "a"), at(x, "b"), at(x, "c"), at(x, "d")};
        for (int n = 0; n < 4; n++) {
            x.file(outputs[n], 20 + n);
        }
        x.begin(0);
        for (int n = 0; n < 3; n++) {
            x.link(0, outputs[n], outputs[n + 1]);
        }
        x.link(0, outputs[3], at(x, "i"));
        x.file(at(x, "i"), 9);
        due("each leads to the next", x.finish(0, false), 4);
        for (int n = 0; n < 4; n++) {
            due("what is in the WORLD, not what was or came in the SOURCE", x.source(outputs[n]), 7);
        }
        x.begin(0);
        x.link(0, outputs[3], outputs[0]);
        x.link(0, outputs[2], outputs[3]);
        x.link(0, outputs[1], outputs[2]);
        x.write(0, outputs[0], 30);
        x.write(0, outputs[0], 31);
        due("each leads to the one before", x.finish(0, false), 4);
        for (int n = 0; n < 4; n++) {
            due("as it is at the end", x.source(outputs[n]), 31);
        }
    }

    private static void none() {
        says("NONE = -1");
        due("NONE", SandboxTree.NONE, -1);
    }

    private static void whatItIs() {
        seesWhatItDeclared();
        writesWhatItDeclared();
        scratchOfItsOwn();
        whatElseIsTold();
        linksStayInside();
        gatheredAtTheEnd();
        nothingElseStays();
        atMost512Calls();
    }

    private static void pathsAndActions() {
        sixtyPaths();
        theLastOfSixty();
        theRoot();
        letters();
        clashingLetters();
        underIsItself();
        underIsAllInIt();
        underIsNothingBeside();
        contentAboveNothing();
        tenActions();
        twelveTogether();
        noOutputUnder();
        noInputUnder();
        noneIsTheRoot();
    }

    private static void worlds() {
        filesAsTheyAreThen();
        filesUnderInputs();
        filesAndLinks();
        writableUnderAnOutput();
        scratchUnderZ();
        zItself();
        scratchNotUnderAnInput();
        eachIsAnOperation();
        oneMoreIsRefused();
        othersAreNoOperations();
        atMostFourLinks();
        chainsThatCome();
        ringsOfLinks();
        noLinkOnTheWay();
        nothingInWhatIsThere();
        nothingRoundWhatIsThere();
        theWorldAloneIsInTheWay();
    }

    private static void ends() {
        inOrderOfDeclaring();
        lacking();
        loose();
        clashing();
        clashingByLinks();
        whatWasGoes();
        filesAloneCome();
        asByThen();
        none();
    }

    public static void main(String[] args) {
        whatItIs();
        pathsAndActions();
        worlds();
        ends();
        System.out.println(wrong == 0 ? "all answers are as due" : wrong + " answers are not as due");
        if (wrong != 0) {
            System.exit(1);
        }
    }
}
