/**
 * Each sentence of promises 1 to 16 that names a boundary case has a test of its own here, on new
 * objects, and tells the document's words (a gap in them is '..') with every answer that isn't due.
 */
public final class PromisesBoundariesTest {
    /** Numbers that no PATH has where there are few; some would wrap round in a set of 64 bits. */
    private static final int[] NO_PATHS = {
        -1, -2, -63, -64, 40, 59, 60, 61, 63, 64, 65, 66, 128, 129, 1 << 16, (1 << 16) + 1,
        Integer.MIN_VALUE, Integer.MIN_VALUE + 1, Integer.MAX_VALUE - 1, Integer.MAX_VALUE
    };
    private static final int[] NO_ACTIONS = {
        -1, -2, -10, 9, 10, 11, 64, 256, 1 << 16, Integer.MIN_VALUE, Integer.MAX_VALUE
    };

    private static int wrong = 0;
    private static String sentence = "";

    private static void says(int promise, String words) {
        sentence = "promise " + promise + ", \"" + words + "\"";
    }

    private static void due(String call, int got, int want) {
        if (got != want) {
            wrong++;
            System.out.println(sentence + ": " + call + " answered " + got + ", due is " + want);
        }
    }

    private static void due(String call, boolean got, boolean want) {
        due(call, got ? 1 : 0, want ? 1 : 0);
    }

    /** The PATH that these LETTERS lead to from the ROOT, made if it isn't there. */
    private static int at(SandboxTree x, String letters) {
        int path = 0;
        for (char letter : letters.toCharArray()) {
            path = x.path(path, letter);
        }
        return path;
    }

    /** ACTION 0 with the INPUT i (PATH 1, a FILE with CONTENT 7) and the OUTPUT o (PATH 2). */
    private static SandboxTree declared(int limit) {
        SandboxTree x = new SandboxTree(limit);
        x.action();
        x.file(at(x, "i"), 7);
        x.declare(0, at(x, "i"), false);
        x.declare(0, at(x, "o"), true);
        return x;
    }

    /** The same, with its WORLD begun. */
    private static SandboxTree begun(int limit) {
        SandboxTree x = declared(limit);
        x.begin(0);
        return x;
    }

    private static final int I = 1;
    private static final int O = 2;

    // Promise 1

    private static void noPathsButTheRoot() {
        says(1, "No PATHS but the ROOT");
        SandboxTree x = new SandboxTree(5);
        due("no FILE can be at 1", x.file(1, 1), false);
        due("nothing is in 1", x.path(1, 'a'), -1);
        due("z is none yet", x.path(0, 'z'), 1);
        SandboxTree y = new SandboxTree(5);
        y.action();
        y.begin(0);
        due("the ROOT can be opened", y.open(0, 0), 0);
        due("1 can't", y.open(0, 1), -1);
    }

    private static void noSource() {
        says(1, "no SOURCE");
        SandboxTree x = new SandboxTree(5);
        for (int path = 0; path < 60; path++) {
            due("source", x.source(path), 0);
        }
        for (int path = 1; path < 60; path++) {
            x.path(path - 1, 'a');
            due("source of a new PATH", x.source(path), 0);
        }
        due("nothing is in the way", x.file(30, 1), true);
    }

    private static void noActions() {
        says(1, "no ACTIONS");
        SandboxTree x = new SandboxTree(5);
        int a = at(x, "a");
        for (int action = 0; action < 10; action++) {
            due("declare", x.declare(action, a, true), -1);
            due("begin", x.begin(action), -1);
            due("open", x.open(action, a), -1);
            due("write", x.write(action, a, 1), -1);
            due("link", x.link(action, a, a), -1);
            due("remove", x.remove(action, a), -1);
            due("list", x.list(action, a, 0), -1);
            due("finish", x.finish(action, false), -1);
            due("tried", x.tried(action, 0), -1);
            due("about", x.about(action, 0), -1);
        }
        due("the first", x.action(), 0);
    }

    private static void operationsOf(int limit, int want) {
        SandboxTree x = new SandboxTree(limit);
        x.action();
        x.begin(0);
        for (int n = 0; n < want; n++) {
            due("within limit " + limit, x.open(0, 0), 0);
        }
        due("not BROKEN at limit " + limit, x.about(0, 3), 0);
        due("one more than limit " + limit, x.open(0, 0), -9);
        due("OPERATIONS of limit " + limit, x.about(0, 1), want);
    }

    private static void limitBelowOne() {
        says(1, "below 1: 1");
        operationsOf(1, 1);
        operationsOf(0, 1);
        operationsOf(-1, 1);
        operationsOf(-500, 1);
        operationsOf(Integer.MIN_VALUE, 1);
    }

    private static void limitAbove500() {
        says(1, "above 500: 500");
        operationsOf(499, 499);
        operationsOf(500, 500);
        operationsOf(501, 500);
        operationsOf(512, 500);
        operationsOf(Integer.MAX_VALUE, 500);
    }

    private static void soManyAWorld() {
        says(1, "so many OPERATIONS a WORLD");
        SandboxTree x = begun(2);
        x.action();
        x.begin(1);
        for (int time = 0; time < 3; time++) {
            due("the first", x.open(0, I), 7);
            due("the second", x.open(0, I), 7);
            due("the third", x.open(0, I), -9);
            x.finish(0, true);
            x.begin(0);
        }
        due("the other ACTION's first", x.open(1, I), 0);
        due("the other ACTION's second", x.open(1, I), 0);
        due("the other ACTION's third", x.open(1, I), -9);
    }

    // Promise 2

    private static void pathThere() {
        says(2, "its number, a new one if it isn't there");
        SandboxTree x = new SandboxTree(5);
        due("new", x.path(0, 'a'), 1);
        due("there", x.path(0, 'a'), 1);
        due("the other case is new", x.path(0, 'A'), 2);
        due("in it is new", x.path(1, 'a'), 3);
        due("in the other is new", x.path(2, 'a'), 4);
        due("there still", x.path(0, 'a'), 1);
        due("and deeper", x.path(1, 'a'), 3);
        due("and in the other", x.path(2, 'a'), 4);
        due("one more", x.path(4, 'a'), 5);
    }

    private static void pathNoneSuch() {
        says(2, "NONE if there is none such");
        SandboxTree x = new SandboxTree(5);
        x.path(0, 'a');
        due("the next number", x.path(2, 'a'), -1);
        for (int parent : NO_PATHS) {
            due("parent " + parent, x.path(parent, 'a'), -1);
        }
        due("none of them made one", x.path(1, 'a'), 2);
    }

    private static void pathNoLetter() {
        says(2, "it is no LETTER");
        SandboxTree x = new SandboxTree(5);
        char[] bad = {
            0, 1, ' ', '/', '.', '0', '9', 'A' - 1, 'Z' + 1, 'a' - 1, 'z' + 1, '_', '~', 127, 128, 170,
            186, 193, 225, 255, 256, 256 + 'a', 512 + 'Z', 0x212a, 0xff21, 0xff41, 0xffff
        };
        for (char letter : bad) {
            due("char " + (int) letter, x.path(0, letter), -1);
        }
        due("none of them made one", x.path(0, 'a'), 1);
        due("A", x.path(0, 'A'), 2);
        due("Z", x.path(0, 'Z'), 3);
        due("z", x.path(0, 'z'), 4);
    }

    private static void pathSixty() {
        says(2, "or there are 60");
        SandboxTree x = new SandboxTree(5);
        for (int n = 1; n < 60; n++) {
            due("path", x.path(n < 27 ? 0 : n - 26, (char) ('a' + n % 26)), n);
        }
        due("in the ROOT", x.path(0, 'Q'), -1);
        due("in the last", x.path(59, 'a'), -1);
        due("again", x.path(0, 'Q'), -1);
        due("no PATH 60 came", x.file(60, 1), false);
        due("the last is the last", x.file(59, 1), true);
    }

    private static void pathThereOfSixty() {
        says(2, "The PATH of a LETTER in another one: its number");
        SandboxTree x = new SandboxTree(5);
        for (int n = 1; n < 60; n++) {
            x.path(n - 1, 'q');
        }
        for (int n = 1; n < 60; n++) {
            due("each of 60", x.path(n - 1, 'q'), n);
        }
    }

    // Promise 3

    private static void fileNoSuchPath() {
        says(3, "false if there is no such PATH");
        SandboxTree x = new SandboxTree(5);
        x.path(0, 'a');
        due("the next number", x.file(2, 1), false);
        for (int path : NO_PATHS) {
            due("file " + path, x.file(path, 1), false);
            due("file with 0 " + path, x.file(path, 0), false);
        }
        due("nothing came to 1", x.source(1), 0);
        due("1", x.file(1, 1), true);
        for (int path : NO_PATHS) {
            due("taken from " + path, x.file(path, 0), false);
        }
        due("nothing went from 1", x.source(1), 1);
    }

    private static void fileTheRoot() {
        says(3, "it is the ROOT");
        SandboxTree x = new SandboxTree(5);
        due("a FILE", x.file(0, 1), false);
        due("none any more", x.file(0, 0), false);
        due("none came", x.source(0), 0);
        due("none is in the way", x.file(x.path(0, 'a'), 1), true);
    }

    private static void fileBelowNothing() {
        says(3, "CONTENT is below 0");
        SandboxTree x = new SandboxTree(5);
        int a = at(x, "a");
        due("- 1 where none is", x.file(a, -1), false);
        due("none came", x.source(a), 0);
        x.file(a, 4);
        due("- 1", x.file(a, -1), false);
        due("lowest", x.file(a, Integer.MIN_VALUE), false);
        due("it stays", x.source(a), 4);
    }

    private static void fileNothing() {
        says(3, "0: it has none any more");
        SandboxTree x = new SandboxTree(5);
        int a = at(x, "a");
        int ab = at(x, "ab");
        due("none was there", x.file(a, 0), true);
        x.file(a, 4);
        due("one was there", x.file(a, 0), true);
        due("it is gone", x.source(a), 0);
        due("twice", x.file(a, 0), true);
        due("it is in nobody's way", x.file(ab, 5), true);
        x.action();
        x.declare(0, a, false);
        due("a WORLD without it", x.begin(0), 1);
        x.finish(0, true);
        x.file(ab, 0);
        due("no FILE", x.begin(0), -2);
    }

    private static void fileInTheWayAbove() {
        says(3, "a FILE of the SOURCE is in the way (at a PATH that it is in .. at any depth)");
        SandboxTree x = new SandboxTree(5);
        int deep = at(x, "abcdef");
        x.file(at(x, "b"), 9);
        for (String above : new String[] {"a", "ab", "abc", "abcd", "abcde"}) {
            due("a FILE at " + above, x.file(at(x, above), 1), true);
            due("in it", x.file(deep, 2), false);
            due("none came", x.source(deep), 0);
            due("nor can one be taken there", x.file(deep, 0), false);
            due("it stays", x.source(at(x, above)), 1);
            due("in its place", x.file(at(x, above), 3), true);
            x.file(at(x, above), 0);
        }
        due("then it can", x.file(deep, 2), true);
    }

    private static void fileInTheWayBelow() {
        says(3, "a FILE of the SOURCE is in the way .. or in it, at any depth)");
        SandboxTree x = new SandboxTree(5);
        int deep = at(x, "abcdef");
        x.file(deep, 2);
        for (String above : new String[] {"a", "ab", "abc", "abcd", "abcde"}) {
            due("a FILE at " + above, x.file(at(x, above), 1), false);
            due("none came", x.source(at(x, above)), 0);
            due("nor can one be taken there", x.file(at(x, above), 0), false);
        }
        due("it stays", x.source(deep), 2);
        due("beside it", x.file(at(x, "abcdeF"), 1), true);
        due("in its place", x.file(deep, 3), true);
        x.file(deep, 0);
        due("the one beside it is there", x.file(at(x, "a"), 1), false);
        x.file(at(x, "abcdeF"), 0);
        due("then it can", x.file(at(x, "a"), 1), true);
    }

    private static void fileAlone() {
        says(3, "a FILE of the SOURCE is in the way");
        SandboxTree x = begun(20);
        int op = at(x, "op");
        x.write(0, op, 1);
        due("what a WORLD has isn't", x.file(O, 1), true);
        due("nor is a FILE at that PATH", x.file(O, 2), true);
        due("nor one beside it", x.file(at(x, "O"), 3), true);
    }

    // Promise 4

    private static void sourceNone() {
        says(4, "0 if there is none");
        SandboxTree x = new SandboxTree(5);
        int a = at(x, "a");
        int ab = at(x, "ab");
        due("no FILE yet", x.source(a), 0);
        x.file(a, 4);
        due("one in a FILE", x.source(ab), 0);
        x.file(a, 0);
        x.file(ab, 5);
        due("one in which a FILE is", x.source(a), 0);
        due("the ROOT", x.source(0), 0);
        due("CONTENT", x.source(ab), 5);
        x.file(a, 4);
        for (int path : NO_PATHS) {
            due("source " + path, x.source(path), 0);
        }
    }

    private static void sourceSeesNoWorld() {
        says(4, "CONTENT of the SOURCE's FILE at a PATH");
        SandboxTree x = begun(20);
        x.write(0, O, 4);
        due("what a WORLD has", x.source(O), 0);
        due("the INPUT's", x.source(I), 7);
    }

    // Promise 5

    private static void actionsAreTen() {
        says(5, "NONE if there are 10");
        SandboxTree x = new SandboxTree(5);
        int a = at(x, "a");
        for (int n = 0; n < 10; n++) {
            due("action", x.action(), n);
            due("not the next one", x.begin(n + 1), -1);
        }
        for (int time = 0; time < 3; time++) {
            due("an 11th", x.action(), -1);
        }
        due("it can't declare", x.declare(10, a, true), -1);
        due("it can't begin", x.begin(10), -1);
        due("nothing is told of it", x.about(10, 0), -1);
        due("the 10th can", x.declare(9, a, true), 1);
        x.begin(9);
        x.finish(9, true);
        due("none is free when one has ended", x.action(), -1);
    }

    // Promise 6

    private static void declareNoneSuch() {
        says(6, "- 1 if there are none such");
        SandboxTree x = new SandboxTree(5);
        int a = at(x, "a");
        due("no ACTION yet", x.declare(0, a, true), -1);
        x.action();
        for (int action : NO_ACTIONS) {
            due("ACTION " + action, x.declare(action, a, true), -1);
        }
        for (int path : NO_PATHS) {
            due("INPUT " + path, x.declare(0, path, false), -1);
            due("OUTPUT " + path, x.declare(0, path, true), -1);
        }
        due("the next PATH", x.declare(0, 2, true), -1);
        due("none of them was DECLARED", x.declare(0, a, true), 1);
    }

    private static void declareTheRoot() {
        says(6, "it is the ROOT");
        SandboxTree x = new SandboxTree(5);
        x.action();
        due("INPUT", x.declare(0, 0, false), -1);
        due("OUTPUT", x.declare(0, 0, true), -1);
        due("neither is DECLARED", x.declare(0, x.path(0, 'a'), true), 1);
        due("with one DECLARED", x.declare(0, 0, true), -1);
    }

    private static void declareTwelve() {
        says(6, "the ACTION has 12");
        SandboxTree x = new SandboxTree(20);
        x.action();
        for (int n = 0; n < 12; n++) {
            int path = x.path(0, (char) ('a' + n));
            due("declare", x.declare(0, path, true), 1);
            due("what is refused isn't counted", x.declare(0, path, true), n < 11 ? -2 : -1);
        }
        int m = x.path(0, 'm');
        due("a 13th", x.declare(0, m, true), -1);
        due("a 13th, INPUT", x.declare(0, m, false), -1);
        due("a 13th, which isn't as told either", x.declare(0, 1, true), -1);
        x.begin(0);
        due("the 12th is WRITABLE", x.write(0, 12, 1), 1);
        due("the 13th isn't", x.write(0, m, 1), 0);
    }

    private static void declareInItsWorld() {
        says(6, "or its WORLD is there");
        SandboxTree x = begun(20);
        int a = at(x, "a");
        due("OUTPUT", x.declare(0, a, true), -1);
        due("INPUT", x.declare(0, a, false), -1);
        due("which isn't as told either", x.declare(0, O, true), -1);
        due("it isn't WRITABLE", x.write(0, a, 1), 0);
        x.action();
        due("another ACTION can", x.declare(1, a, true), 1);
        x.finish(0, true);
        due("when it has ended", x.declare(0, a, true), 1);
        x.begin(0);
        due("it is WRITABLE", x.write(0, a, 1), 1);
    }

    private static void declareAfterNoBegin() {
        says(6, "or its WORLD is there");
        SandboxTree x = new SandboxTree(20);
        x.action();
        x.declare(0, at(x, "a"), false);
        due("begin", x.begin(0), -2);
        due("it isn't there", x.declare(0, at(x, "b"), true), 1);
    }

    private static void declareNotAsTold() {
        says(6, "else - 2 if it isn't as told with one that is DECLARED");
        for (int kinds = 0; kinds < 4; kinds++) {
            boolean first = kinds % 2 == 1;
            boolean second = kinds / 2 == 1;
            SandboxTree x = new SandboxTree(20);
            int abc = at(x, "abc");
            x.action();
            x.declare(0, at(x, "o"), true);
            due("the first", x.declare(0, abc, first), 1);
            for (String other : new String[] {"a", "ab", "abc", "abcd", "abcde"}) {
                due("declare " + other, x.declare(0, at(x, other), second), -2);
            }
            due("declare beside", x.declare(0, at(x, "abd"), second), 1);
            x.file(abc, 4);
            x.file(at(x, "abd"), 5);
            due("what was refused isn't DECLARED", x.begin(0), (first ? 0 : 1) + (second ? 0 : 1));
            due("nor WRITABLE", x.write(0, at(x, "a"), 1), 0);
        }
    }

    // Promise 7

    /** The calls that can be refused, in a WORLD in which the OUTPUT o has nothing and op has a FILE. */
    private static int refusable(SandboxTree x, int kind) {
        switch (kind) {
            case 0:
                return x.write(0, I, 1);
            case 1:
                return x.write(0, O, 1);
            case 2:
                return x.write(0, at(x, "op"), 0);
            case 3:
                return x.link(0, I, O);
            case 4:
                return x.link(0, O, I);
            case 5:
                return x.link(0, at(x, "op"), at(x, "r"));
            case 6:
                return x.remove(0, I);
            default:
                return x.remove(0, O);
        }
    }

    private static void strictBreaks() {
        says(7, "a write, link or remove that is refused makes the ACTION BROKEN");
        for (int kind = 0; kind < 8; kind++) {
            for (int on = 0; on < 2; on++) {
                SandboxTree x = begun(20);
                x.strict(on == 1);
                x.write(0, at(x, "op"), 4);
                due("kind " + kind, refusable(x, kind), 0);
                due("BROKEN by kind " + kind + ", strict " + on, x.about(0, 3), on);
                due("refused of kind " + kind, x.about(0, 2), 1);
                due("finish after kind " + kind, x.finish(0, false), on == 1 ? -2 : 1);
            }
        }
    }

    private static void strictSparesTheRest() {
        says(7, "a write, link or remove that is refused");
        SandboxTree x = begun(30);
        x.strict(true);
        x.action();
        x.begin(1);
        x.open(0, O);
        x.list(0, O, 9);
        x.write(0, 40, 1);
        x.link(0, 40, I);
        x.link(0, O, 40);
        x.remove(0, 40);
        due("what answers - 1, open and list are none", x.about(0, 3), 0);
        x.write(0, O, 1);
        x.remove(0, O);
        x.link(0, O, I);
        due("nor is what is done", x.about(0, 3), 0);
        x.declare(0, O, true);
        x.begin(0);
        x.file(0, 1);
        due("nor are other calls", x.about(0, 3), 0);
        x.write(1, O, 1);
        due("the ACTION that was refused", x.about(1, 3), 1);
        due("the other isn't BROKEN", x.about(0, 3), 0);
        due("finish", x.finish(0, false), 1);
    }

    private static void strictAtOnce() {
        says(7, "It counts at once");
        SandboxTree x = begun(30);
        x.write(0, I, 1);
        due("at first it isn't STRICT", x.about(0, 3), 0);
        x.strict(true);
        due("what was refused before", x.about(0, 3), 0);
        x.strict(false);
        x.write(0, I, 1);
        due("off again", x.about(0, 3), 0);
        x.strict(true);
        x.strict(true);
        x.write(0, I, 1);
        due("in a WORLD that was there already", x.about(0, 3), 1);
        x.strict(false);
        due("BROKEN it stays", x.about(0, 3), 1);
        x.write(0, O, 1);
        due("whatever is done", x.finish(0, false), -2);
        x.begin(0);
        due("but not in the next WORLD", x.about(0, 3), 0);
        x.write(0, I, 1);
        x.write(0, O, 1);
        due("off in the next WORLD", x.finish(0, false), 1);
    }

    // Promise 8

    private static void beginCounts() {
        says(8, "how many FILES it has");
        SandboxTree x = new SandboxTree(5);
        x.action();
        due("no INPUTS", x.begin(0), 0);
        x.finish(0, true);
        x.declare(0, at(x, "a"), false);
        for (int n = 0; n < 20; n++) {
            x.file(x.path(1, (char) ('a' + n)), 1);
        }
        x.file(at(x, "b"), 1);
        due("twenty in an INPUT", x.begin(0), 20);
        x.finish(0, true);
        x.declare(0, at(x, "b"), false);
        due("and one at another", x.begin(0), 21);
    }

    private static void beginNoneSuch() {
        says(8, "- 1 if there is none such");
        SandboxTree x = new SandboxTree(5);
        due("none yet", x.begin(0), -1);
        x.action();
        for (int action : NO_ACTIONS) {
            due("ACTION " + action, x.begin(action), -1);
        }
        due("the first", x.begin(0), 0);
    }

    private static void beginThere() {
        says(8, "or it is there");
        SandboxTree x = begun(5);
        x.write(0, O, 4);
        x.open(0, at(x, "r"));
        x.write(0, I, 4);
        due("begin", x.begin(0), -1);
        due("what was done is done", x.open(0, O), 4);
        due("and counted", x.about(0, 1), 4);
        due("and told", x.about(0, 2), 1);
        due("and noted", x.tried(0, 0), 3);
        x.file(I, 0);
        due("before - 2", x.begin(0), -1);
        x.finish(0, true);
        due("then - 2", x.begin(0), -2);
    }

    private static void beginNoFile() {
        says(8, "- 2 if UNDER one of its INPUTS there is no FILE");
        for (int empty = 0; empty < 3; empty++) {
            SandboxTree x = new SandboxTree(5);
            x.action();
            for (int n = 0; n < 3; n++) {
                int path = x.path(0, (char) ('a' + n));
                int inside = x.path(path, 'x');
                x.declare(0, path, false);
                if (n != empty) {
                    x.file(inside, 1);
                }
            }
            due("INPUT " + empty + " of three", x.begin(0), -2);
            x.file(x.path(0, (char) ('a' + empty)), 1);
            due("when it has one", x.begin(0), 3);
        }
        SandboxTree y = new SandboxTree(5);
        y.action();
        y.file(at(y, "a"), 1);
        y.declare(0, at(y, "ab"), false);
        due("a FILE above is none UNDER it", y.begin(0), -2);
        y.file(at(y, "a"), 0);
        y.file(at(y, "ac"), 1);
        due("nor is one beside it", y.begin(0), -2);
    }

    private static void beginOutputsMayLack() {
        says(8, "UNDER one of its INPUTS");
        SandboxTree x = new SandboxTree(5);
        x.action();
        x.declare(0, at(x, "a"), true);
        due("an OUTPUT without FILES", x.begin(0), 0);
    }

    private static void beginIsNotBegun() {
        says(8, "(it isn't begun)");
        SandboxTree x = begun(5);
        x.open(0, O);
        x.strict(true);
        x.write(0, I, 1);
        x.finish(0, true);
        x.file(I, 0);
        due("begin", x.begin(0), -2);
        due("no WORLD", x.about(0, 0), 0);
        due("nothing to open", x.open(0, O), -1);
        due("nothing to finish", x.finish(0, false), -1);
        due("the latest one is the one before", x.about(0, 1), 2);
        due("its refused", x.about(0, 2), 1);
        due("BROKEN", x.about(0, 3), 1);
        due("its TRIED", x.tried(0, 0), O);
        SandboxTree y = new SandboxTree(5);
        y.action();
        y.declare(0, at(y, "a"), false);
        y.begin(0);
        due("none was begun ever", y.about(0, 1), -1);
    }

    // Promise 9

    private static void openTried() {
        says(9, "0 if to nothing: it is TRIED (noted, once)");
        SandboxTree x = begun(50);
        int r = at(x, "r");
        x.link(0, O, at(x, "za"));
        due("what isn't there", x.open(0, r), 0);
        due("a LINK to nothing", x.open(0, O), 0);
        due("again", x.open(0, r), 0);
        due("the ROOT", x.open(0, 0), 0);
        due("again a LINK", x.open(0, O), 0);
        due("the first", x.tried(0, 0), r);
        due("the second is the LINK", x.tried(0, 1), O);
        due("the third", x.tried(0, 2), 0);
        due("no fourth", x.tried(0, 3), -1);
        x.write(0, at(x, "za"), 1);
        due("now it leads to one", x.open(0, O), 1);
        due("it was TRIED all the same", x.tried(0, 1), O);
        x.remove(0, at(x, "za"));
        due("now not", x.open(0, O), 0);
        due("it is noted once", x.tried(0, 3), -1);
        due("0 of open isn't refused", x.about(0, 2), 0);
    }

    private static void openFoundIsNotTried() {
        says(9, "What a PATH LEADS to: CONTENT");
        SandboxTree x = begun(50);
        x.link(0, O, I);
        due("a FILE", x.open(0, I), 7);
        due("a LINK", x.open(0, O), 7);
        due("neither is TRIED", x.tried(0, 0), -1);
    }

    private static void openNoSuch() {
        says(9, "- 1 if there is no such WORLD or PATH");
        SandboxTree x = declared(20);
        due("not begun", x.open(0, I), -1);
        x.begin(0);
        for (int path : NO_PATHS) {
            due("PATH " + path, x.open(0, path), -1);
        }
        due("the next PATH", x.open(0, 3), -1);
        for (int action : NO_ACTIONS) {
            due("ACTION " + action, x.open(action, I), -1);
        }
        due("no OPERATIONS", x.about(0, 1), 0);
        due("nothing TRIED", x.tried(0, 0), -1);
        x.finish(0, false);
        due("ended", x.open(0, I), -1);
    }

    private static void openOverLimit() {
        says(9, "- 9");
        SandboxTree x = begun(2);
        x.open(0, O);
        due("the last one", x.open(0, I), 7);
        due("one more", x.open(0, I), -9);
        due("one more that would be TRIED", x.open(0, 0), -9);
        due("isn't noted", x.tried(0, 1), -1);
        due("- 1 is told first", x.open(0, 44), -1);
        due("isn't counted", x.about(0, 1), 2);
    }

    private static void noSuchBreaksNothing() {
        says(9, "- 1 if there is no such WORLD or PATH; - 9");
        SandboxTree x = begun(1);
        x.write(0, O, 4);
        x.open(0, 44);
        x.write(0, 44, 1);
        x.link(0, 44, I);
        x.link(0, O, 44);
        x.remove(0, 44);
        x.list(0, 44, 0);
        due("at LIMIT, what answers - 1 is no OPERATION more", x.about(0, 3), 0);
        due("finish", x.finish(0, false), 1);
    }

    // Promise 10

    private static void writeInPlace() {
        says(10, "in place of what was there");
        SandboxTree x = begun(50);
        due("where nothing is", x.write(0, O, 3), 1);
        due("in place of a FILE", x.write(0, O, 4), 1);
        due("open", x.open(0, O), 4);
        x.link(0, O, I);
        due("in place of a LINK", x.write(0, O, 5), 1);
        due("open then", x.open(0, O), 5);
        due("where the LINK led", x.open(0, I), 7);
        due("finish", x.finish(0, false), 1);
        due("source", x.source(O), 5);
    }

    private static void writeNotWritable() {
        says(10, "0 if it isn't WRITABLE");
        SandboxTree x = begun(50);
        due("an INPUT", x.write(0, I, 1), 0);
        due("the ROOT", x.write(0, 0, 1), 0);
        due("z", x.write(0, at(x, "z"), 1), 0);
        due("what isn't DECLARED", x.write(0, at(x, "r"), 1), 0);
        due("the INPUT stays", x.open(0, I), 7);
        due("nothing came", x.open(0, at(x, "r")), 0);
        due("refused", x.about(0, 2), 4);
    }

    private static void writeInTheWay() {
        says(10, "something is in the way");
        SandboxTree x = begun(50);
        x.write(0, at(x, "opq"), 3);
        due("above", x.write(0, O, 1), 0);
        due("nearer", x.write(0, at(x, "op"), 1), 0);
        due("in it", x.write(0, at(x, "opqr"), 1), 0);
        due("deep in it", x.write(0, at(x, "opqrst"), 1), 0);
        due("it stays", x.open(0, at(x, "opq")), 3);
        due("refused", x.about(0, 2), 4);
        due("finish", x.finish(0, false), 1);
    }

    private static void writeBelowOne() {
        says(10, "or CONTENT is below 1: refused");
        SandboxTree x = begun(50);
        x.write(0, O, 3);
        due("0", x.write(0, O, 0), 0);
        due("- 1", x.write(0, O, -1), 0);
        due("lowest", x.write(0, O, Integer.MIN_VALUE), 0);
        due("it stays", x.open(0, O), 3);
        due("refused", x.about(0, 2), 3);
        due("1", x.write(0, O, 1), 1);
    }

    private static void writeAsOpen() {
        says(10, "- 1 and - 9 as open");
        SandboxTree x = declared(1);
        due("not begun", x.write(0, O, 1), -1);
        x.begin(0);
        for (int path : NO_PATHS) {
            due("PATH " + path, x.write(0, path, 1), -1);
            due("PATH with 0 " + path, x.write(0, path, 0), -1);
        }
        for (int action : NO_ACTIONS) {
            due("ACTION " + action, x.write(action, O, 1), -1);
        }
        due("none refused", x.about(0, 2), 0);
        due("the last one", x.write(0, O, 1), 1);
        due("one more", x.write(0, O, 2), -9);
        due("one more that would be refused", x.write(0, I, 2), -9);
        due("isn't told", x.about(0, 2), 0);
        x.finish(0, false);
        due("ended", x.write(0, O, 1), -1);
    }

    // Promise 11

    private static void linkInPlace() {
        says(11, "A LINK to a PATH is at a PATH, in place of what was there");
        SandboxTree x = begun(50);
        int za = at(x, "za");
        due("where nothing is", x.link(0, O, I), 1);
        due("open", x.open(0, O), 7);
        x.write(0, za, 3);
        due("in place of a LINK", x.link(0, O, za), 1);
        due("open then", x.open(0, O), 3);
        due("in place of a FILE", x.link(0, za, I), 1);
        due("a LINK to a LINK", x.open(0, O), 7);
        due("to itself", x.link(0, za, za), 1);
        due("leads nowhere", x.open(0, O), 0);
    }

    private static void linkNotWritable() {
        says(11, "0 if it isn't WRITABLE");
        SandboxTree x = begun(50);
        due("an INPUT", x.link(0, I, O), 0);
        due("in an INPUT", x.link(0, at(x, "ij"), I), 0);
        due("the ROOT", x.link(0, 0, I), 0);
        due("z", x.link(0, at(x, "z"), I), 0);
        due("what isn't DECLARED", x.link(0, at(x, "r"), I), 0);
        due("the INPUT stays", x.open(0, I), 7);
        due("nothing came", x.open(0, at(x, "r")), 0);
        due("refused", x.about(0, 2), 5);
    }

    private static void linkInTheWay() {
        says(11, "something is in the way");
        SandboxTree x = begun(50);
        x.link(0, at(x, "opq"), I);
        due("above", x.link(0, O, I), 0);
        due("nearer", x.link(0, at(x, "op"), I), 0);
        due("in it", x.link(0, at(x, "opqr"), I), 0);
        due("deep in it", x.link(0, at(x, "opqrst"), I), 0);
        due("it stays", x.open(0, at(x, "opq")), 7);
        due("refused", x.about(0, 2), 4);
    }

    private static void linkOutside() {
        says(11, "or the other PATH is neither WRITABLE nor UNDER an INPUT: refused");
        SandboxTree x = begun(50);
        x.write(0, O, 3);
        due("to what isn't DECLARED", x.link(0, O, at(x, "r")), 0);
        due("to the ROOT", x.link(0, O, 0), 0);
        due("to z", x.link(0, O, at(x, "z")), 0);
        due("it stays", x.open(0, O), 3);
        due("refused", x.about(0, 2), 3);
        due("to an OUTPUT", x.link(0, O, O), 1);
        due("to SCRATCH", x.link(0, O, at(x, "za")), 1);
        due("to an INPUT", x.link(0, O, I), 1);
        due("to nothing in an INPUT", x.link(0, O, at(x, "ijk")), 1);
        due("to nothing in an OUTPUT", x.link(0, at(x, "zb"), at(x, "opq")), 1);
        x.action();
        x.declare(1, at(x, "s"), true);
        due("to another ACTION's OUTPUT", x.link(0, O, at(x, "s")), 0);
    }

    private static void linkAsOpen() {
        says(11, "- 1 and - 9 as open");
        SandboxTree x = declared(1);
        due("not begun", x.link(0, O, I), -1);
        x.begin(0);
        for (int path : NO_PATHS) {
            due("PATH " + path, x.link(0, path, I), -1);
            due("other PATH " + path, x.link(0, O, path), -1);
        }
        for (int action : NO_ACTIONS) {
            due("ACTION " + action, x.link(action, O, I), -1);
        }
        due("none refused", x.about(0, 2), 0);
        due("the last one", x.link(0, O, I), 1);
        due("one more", x.link(0, O, I), -9);
        due("one more that would be refused", x.link(0, I, I), -9);
        due("isn't told", x.about(0, 2), 0);
        x.finish(0, false);
        due("ended", x.link(0, O, I), -1);
    }

    // Promise 12

    private static void removeGoes() {
        says(12, "What is at a PATH goes: 1");
        SandboxTree x = begun(50);
        x.write(0, at(x, "op"), 3);
        x.write(0, at(x, "oq"), 4);
        due("a FILE", x.remove(0, at(x, "op")), 1);
        due("it is gone", x.open(0, at(x, "op")), 0);
        due("the other isn't", x.open(0, at(x, "oq")), 4);
        x.link(0, at(x, "op"), at(x, "oq"));
        due("a LINK", x.remove(0, at(x, "op")), 1);
        due("not where it leads", x.open(0, at(x, "oq")), 4);
        due("it is gone", x.list(0, O, 1), 0);
        x.link(0, at(x, "za"), at(x, "zb"));
        due("a LINK to nothing", x.remove(0, at(x, "za")), 1);
    }

    private static void removeNotWritable() {
        says(12, "0 if it isn't WRITABLE");
        SandboxTree x = begun(50);
        due("a FILE of an INPUT", x.remove(0, I), 0);
        due("it stays", x.open(0, I), 7);
        due("the ROOT", x.remove(0, 0), 0);
        due("refused", x.about(0, 2), 2);
    }

    private static void removeNothing() {
        says(12, "or nothing is there: refused");
        SandboxTree x = begun(50);
        due("an OUTPUT", x.remove(0, O), 0);
        x.write(0, at(x, "op"), 3);
        due("one in which a FILE is", x.remove(0, O), 0);
        due("one in a FILE", x.remove(0, at(x, "opq")), 0);
        due("it stays", x.open(0, at(x, "op")), 3);
        x.remove(0, at(x, "op"));
        due("twice", x.remove(0, at(x, "op")), 0);
        x.file(O, 5);
        due("one of the SOURCE", x.remove(0, O), 0);
        due("which stays", x.source(O), 5);
        due("refused", x.about(0, 2), 5);
    }

    private static void removeAsOpen() {
        says(12, "- 1 and - 9 as open");
        SandboxTree x = declared(2);
        due("not begun", x.remove(0, O), -1);
        x.begin(0);
        for (int path : NO_PATHS) {
            due("PATH " + path, x.remove(0, path), -1);
        }
        for (int action : NO_ACTIONS) {
            due("ACTION " + action, x.remove(action, O), -1);
        }
        due("none refused", x.about(0, 2), 0);
        x.write(0, O, 1);
        due("the last one", x.remove(0, O), 1);
        due("one more", x.remove(0, O), -9);
        due("isn't told", x.about(0, 2), 0);
        x.finish(0, false);
        due("ended", x.remove(0, O), -1);
    }

    // Promise 13

    private static void listByCodes() {
        says(13, "The LETTER of the i-th PATH in a PATH .. by the codes of LETTERS");
        SandboxTree x = begun(200);
        for (char letter = 'z'; letter >= 'a'; letter--) {
            x.write(0, x.path(O, letter), 1);
            x.write(0, x.path(O, (char) (letter - 32)), 1);
        }
        for (int n = 0; n < 26; n++) {
            due("the capital", x.list(0, O, n), 'A' + n);
            due("the small", x.list(0, O, 26 + n), 'a' + n);
        }
        due("none after 52", x.list(0, O, 52), 0);
    }

    private static void listUnderWhich() {
        says(13, "UNDER which something is in the WORLD");
        SandboxTree x = begun(50);
        at(x, "oa");
        at(x, "oz");
        x.file(at(x, "ob"), 3);
        due("nothing yet", x.list(0, O, 0), 0);
        x.link(0, at(x, "om"), at(x, "on"));
        due("a LINK to nothing", x.list(0, O, 0), 'm');
        x.write(0, at(x, "ocdef"), 1);
        due("a FILE deep in it", x.list(0, O, 0), 'c');
        due("a FILE deep in that", x.list(0, at(x, "oc"), 0), 'd');
        due("not from there on", x.list(0, at(x, "oc"), 1), 0);
        due("the second", x.list(0, O, 1), 'm');
        due("no third", x.list(0, O, 2), 0);
        x.remove(0, at(x, "ocdef"));
        due("when it is gone", x.list(0, O, 0), 'm');
        due("of an INPUT", x.list(0, 0, 0), 'i');
        due("the ROOT's second", x.list(0, 0, 1), 'o');
        due("the ROOT's third", x.list(0, 0, 2), 0);
    }

    private static void listNoneSuch() {
        says(13, "0 if there is none such");
        SandboxTree x = begun(50);
        x.write(0, at(x, "oa"), 1);
        due("the first", x.list(0, O, 0), 'a');
        for (int i : new int[] {1, 2, 52, 64, 256, -1, -64, -256, Integer.MIN_VALUE, Integer.MAX_VALUE}) {
            due("i " + i, x.list(0, O, i), 0);
        }
        due("in a FILE", x.list(0, at(x, "oa"), 0), 0);
        due("in a PATH with nothing", x.list(0, at(x, "r"), 0), 0);
        due("none is TRIED", x.tried(0, 0), -1);
        due("none is refused", x.about(0, 2), 0);
    }

    private static void listAsOpen() {
        says(13, "- 1 and - 9 as open");
        SandboxTree x = declared(1);
        due("not begun", x.list(0, 0, 0), -1);
        x.begin(0);
        for (int path : NO_PATHS) {
            due("PATH " + path, x.list(0, path, 0), -1);
        }
        for (int action : NO_ACTIONS) {
            due("ACTION " + action, x.list(action, 0, 0), -1);
        }
        due("the last one", x.list(0, 0, 0), 'i');
        due("one more", x.list(0, 0, 0), -9);
        due("one more that would answer 0", x.list(0, 0, 9), -9);
        x.finish(0, false);
        due("ended", x.list(0, 0, 0), -1);
    }

    // Promise 14

    private static void finishEnds() {
        says(14, "An ACTION's WORLD ends (it isn't there then)");
        for (int way = 0; way < 4; way++) {
            SandboxTree x = begun(2);
            x.write(0, O, way == 1 ? 0 : 1);
            x.open(0, I);
            if (way == 2) {
                x.open(0, I);
            }
            int want = way == 0 ? 1 : way == 1 ? -10 : way == 2 ? -2 : 0;
            due("finish " + way, x.finish(0, way == 3), want);
            due("about", x.about(0, 0), 0);
            due("open", x.open(0, I), -1);
            due("once more", x.finish(0, false), -1);
            due("a new one", x.begin(0), 1);
        }
    }

    private static void finishNoneSuch() {
        says(14, "- 1 if there is none such");
        SandboxTree x = declared(5);
        due("not begun", x.finish(0, false), -1);
        due("not begun, failed", x.finish(0, true), -1);
        x.begin(0);
        x.write(0, O, 1);
        for (int action : NO_ACTIONS) {
            due("ACTION " + action, x.finish(action, false), -1);
            due("ACTION, failed " + action, x.finish(action, true), -1);
        }
        due("it is there", x.about(0, 0), 1);
        due("finish", x.finish(0, false), 1);
    }

    private static void finishFailed() {
        says(14, "0 if it failed");
        SandboxTree x = begun(5);
        x.write(0, O, 1);
        due("all right but failed", x.finish(0, true), 0);
        due("nothing came", x.source(O), 0);
        x.begin(0);
        due("LACKING and failed", x.finish(0, true), 0);
        x.begin(0);
        x.strict(true);
        x.write(0, I, 1);
        due("BROKEN and failed", x.finish(0, true), 0);
        due("BROKEN is told", x.about(0, 3), 1);
    }

    private static void finishBroken() {
        says(14, "- 2 if it is BROKEN");
        SandboxTree x = begun(2);
        x.strict(true);
        x.write(0, I, 1);
        due("by STRICT, LACKING, too", x.finish(0, false), -2);
        x.begin(0);
        x.write(0, O, 4);
        x.remove(0, I);
        due("by STRICT, all else right", x.finish(0, false), -2);
        due("nothing came", x.source(O), 0);
        x.begin(0);
        x.write(0, O, 4);
        x.open(0, O);
        x.open(0, O);
        due("by LIMIT", x.finish(0, false), -2);
        due("nothing came then", x.source(O), 0);
        x.begin(0);
        x.write(0, O, 4);
        x.open(0, O);
        due("at LIMIT", x.finish(0, false), 1);
    }

    /**
     * Twelve DECLARED: so many INPUTS, then OUTPUTS with a FILE each, but for the k-th of these: it has a
     * LINK to nothing, or nothing at all.
     */
    private static SandboxTree twelveOutputs(int k, boolean loose, int inputs) {
        SandboxTree x = new SandboxTree(50);
        x.action();
        for (int n = 0; n < inputs; n++) {
            int input = x.path(0, (char) ('A' + n));
            x.file(input, 1);
            x.declare(0, input, false);
        }
        int first = inputs + 1;
        for (int n = 0; n < 12 - inputs; n++) {
            x.declare(0, x.path(0, (char) ('a' + n + inputs)), true);
        }
        x.begin(0);
        for (int n = 0; n < 12 - inputs; n++) {
            if (n != k) {
                x.write(0, first + n, 1);
            } else if (loose) {
                x.link(0, first + n, x.path(first + n, 'x'));
            }
        }
        return x;
    }

    private static void finishLacking() {
        says(14, "LACKING .. at place k (from 0) among OUTPUTS: - 10 - 2 k");
        for (int inputs = 0; inputs <= 6; inputs += 3) {
            for (int k = 0; k < 12 - inputs; k++) {
                due("place " + k, twelveOutputs(k, false, inputs).finish(0, false), -10 - 2 * k);
            }
        }
    }

    private static void finishLoose() {
        says(14, "LOOSE, at place k (from 0) among OUTPUTS .. or - 11 - 2 k");
        for (int inputs = 0; inputs <= 6; inputs += 3) {
            for (int k = 0; k < 12 - inputs; k++) {
                due("place " + k, twelveOutputs(k, true, inputs).finish(0, false), -11 - 2 * k);
            }
        }
    }

    private static void finishFirst() {
        says(14, "of the first OUTPUT that is LACKING or LOOSE");
        SandboxTree x = declared(50);
        int p = at(x, "p");
        x.declare(0, p, true);
        x.begin(0);
        due("both LACKING", x.finish(0, false), -10);
        x.begin(0);
        x.link(0, O, p);
        due("LOOSE, then LACKING", x.finish(0, false), -11);
        x.begin(0);
        x.link(0, p, O);
        due("LACKING, then LOOSE", x.finish(0, false), -10);
        x.begin(0);
        x.link(0, p, O);
        x.link(0, O, p);
        due("both LOOSE", x.finish(0, false), -11);
        x.begin(0);
        x.link(0, p, I);
        x.link(0, O, p);
        due("neither", x.finish(0, false), 2);
    }

    private static void finishClashing() {
        says(14, "- 3 if CLASHING");
        SandboxTree x = declared(50);
        int p = at(x, "p");
        x.declare(0, p, true);
        x.begin(0);
        x.write(0, at(x, "oa"), 1);
        x.write(0, at(x, "oA"), 1);
        due("LACKING, too", x.finish(0, false), -12);
        x.begin(0);
        x.write(0, at(x, "oa"), 1);
        x.write(0, at(x, "oA"), 1);
        x.link(0, p, O);
        due("LOOSE, too", x.finish(0, false), -13);
        x.file(at(x, "oa"), 9);
        x.begin(0);
        x.write(0, at(x, "oa"), 1);
        x.write(0, at(x, "oA"), 1);
        x.write(0, p, 1);
        due("else", x.finish(0, false), -3);
        due("nothing went", x.source(at(x, "oa")), 9);
        due("nothing came", x.source(p), 0);
    }

    private static void finishInTheWay() {
        says(14, "- 4 if a FILE of the SOURCE that stays would be in the way");
        for (String above : new String[] {"a", "ab", "abc"}) {
            SandboxTree x = new SandboxTree(50);
            int output = at(x, "abcd");
            x.action();
            x.declare(0, at(x, "o"), true);
            x.declare(0, output, true);
            x.begin(0);
            x.write(0, at(x, "o"), 3);
            x.write(0, at(x, "abcde"), 4);
            x.file(at(x, above), 9);
            due("at " + above, x.finish(0, false), -4);
            due("it stays", x.source(at(x, above)), 9);
            due("nothing came", x.source(at(x, "o")) + x.source(at(x, "abcde")), 0);
            x.begin(0);
            x.write(0, at(x, "o"), 3);
            x.link(0, output, at(x, "o"));
            due("of a LINK at " + above, x.finish(0, false), -4);
            x.begin(0);
            x.write(0, at(x, "o"), 3);
            x.write(0, output, 4);
            x.file(at(x, above), 0);
            due("when it is gone", x.finish(0, false), 2);
        }
    }

    private static void finishNotInTheWay() {
        says(14, "that stays");
        SandboxTree x = declared(50);
        x.file(O, 9);
        x.begin(0);
        x.write(0, at(x, "opq"), 1);
        due("one above that goes", x.finish(0, false), 1);
        due("it went", x.source(O), 0);
        x.begin(0);
        x.write(0, O, 2);
        due("one in it that goes", x.finish(0, false), 1);
        due("it went, too", x.source(at(x, "opq")), 0);
        x.file(at(x, "O"), 3);
        x.begin(0);
        x.write(0, O, 4);
        due("one beside it that stays", x.finish(0, false), 1);
        due("it stayed", x.source(at(x, "O")), 3);
    }

    private static void finishClashingFirst() {
        says(14, "- 3 if CLASHING; - 4");
        SandboxTree x = new SandboxTree(50);
        x.action();
        x.file(at(x, "a"), 9);
        x.declare(0, at(x, "ab"), true);
        x.declare(0, at(x, "aB"), true);
        x.begin(0);
        x.write(0, at(x, "ab"), 1);
        x.write(0, at(x, "aB"), 1);
        due("both", x.finish(0, false), -3);
        x.begin(0);
        x.write(0, at(x, "ab"), 1);
        due("LACKING before - 4", x.finish(0, false), -12);
    }

    private static void finishCounts() {
        says(14, "else how many FILES came into the SOURCE");
        SandboxTree x = declared(50);
        for (int n = 0; n < 20; n++) {
            x.file(x.path(O, (char) ('a' + n)), 1);
        }
        x.begin(0);
        for (int n = 0; n < 5; n++) {
            x.write(0, at(x, "o" + (char) ('a' + n)), 2);
            x.link(0, at(x, "o" + (char) ('f' + n)), I);
            x.write(0, at(x, "z" + (char) ('a' + n)), 2);
        }
        due("FILES and LINKS of OUTPUTS, not INPUTS, SCRATCH, or what went", x.finish(0, false), 10);
        for (int inputs = 0; inputs < 12; inputs++) {
            due("12 DECLARED", twelveOutputs(-1, false, inputs).finish(0, false), 12 - inputs);
        }
        due("12 INPUTS, no OUTPUTS", twelveOutputs(-1, false, 12).finish(0, false), 0);
        SandboxTree y = new SandboxTree(50);
        y.action();
        y.begin(0);
        due("nothing DECLARED", y.finish(0, false), 0);
    }

    private static void finishOtherwise() {
        says(14, "(Otherwise it stays as it is.)");
        SandboxTree x = declared(3);
        x.file(O, 9);
        x.begin(0);
        x.write(0, O, 1);
        x.finish(0, true);
        due("failed", x.source(O), 9);
        x.begin(0);
        x.finish(0, false);
        due("LACKING", x.source(O), 9);
        x.begin(0);
        x.link(0, O, O);
        x.finish(0, false);
        due("LOOSE", x.source(O), 9);
        x.begin(0);
        for (int n = 0; n < 4; n++) {
            x.write(0, O, 1);
        }
        x.finish(0, false);
        due("BROKEN", x.source(O), 9);
        due("the INPUT", x.source(I), 7);
    }

    // Promise 15

    private static void triedNone() {
        says(15, "NONE if there is none such");
        SandboxTree x = declared(20);
        due("no WORLD yet", x.tried(0, 0), -1);
        x.begin(0);
        due("nothing TRIED", x.tried(0, 0), -1);
        x.open(0, O);
        due("one TRIED", x.tried(0, 0), O);
        for (int i : new int[] {1, 2, 60, 64, -1, -2, Integer.MIN_VALUE, Integer.MAX_VALUE}) {
            due("i " + i, x.tried(0, i), -1);
        }
        for (int action : NO_ACTIONS) {
            due("ACTION " + action, x.tried(action, 0), -1);
        }
    }

    private static void triedAll() {
        says(15, "The i-th PATH that was TRIED");
        SandboxTree x = new SandboxTree(500);
        x.action();
        x.begin(0);
        for (int n = 1; n < 60; n++) {
            x.path(n / 2, n % 2 == 0 ? 'a' : 'b');
        }
        for (int time = 0; time < 2; time++) {
            for (int n = 0; n < 60; n++) {
                x.open(0, n * 7 % 60);
            }
        }
        for (int n = 0; n < 60; n++) {
            due("tried " + n, x.tried(0, n), n * 7 % 60);
        }
        due("no 61st", x.tried(0, 60), -1);
    }

    private static void triedLatest() {
        says(15, "in an ACTION's latest WORLD");
        SandboxTree x = begun(20);
        x.action();
        x.begin(1);
        x.open(0, O);
        x.open(0, 0);
        x.finish(0, true);
        due("when it has ended", x.tried(0, 0), O);
        due("the second", x.tried(0, 1), 0);
        due("not of the other ACTION", x.tried(1, 0), -1);
        x.begin(0);
        due("of a new one nothing", x.tried(0, 0), -1);
        x.open(0, 0);
        due("TRIED anew", x.tried(0, 0), 0);
        due("no second", x.tried(0, 1), -1);
    }

    // Promise 16

    private static void aboutThere() {
        says(16, "0 whether its WORLD is there (1, 0)");
        SandboxTree x = declared(20);
        due("not yet", x.about(0, 0), 0);
        x.begin(0);
        due("there", x.about(0, 0), 1);
        x.finish(0, false);
        due("ended", x.about(0, 0), 0);
        x.begin(0);
        due("there anew", x.about(0, 0), 1);
    }

    private static void aboutOperations() {
        says(16, "1 how many OPERATIONS the latest one had (refused ones, too; not those of - 9)");
        SandboxTree x = begun(6);
        x.open(0, O);
        due("open", x.about(0, 1), 1);
        x.write(0, I, 1);
        due("a refused write", x.about(0, 1), 2);
        x.link(0, I, O);
        due("a refused link", x.about(0, 1), 3);
        x.remove(0, I);
        due("a refused remove", x.about(0, 1), 4);
        x.list(0, O, 0);
        due("list", x.about(0, 1), 5);
        x.write(0, O, 1);
        due("a write", x.about(0, 1), 6);
        x.write(0, O, 1);
        x.write(0, I, 1);
        due("those of - 9", x.about(0, 1), 6);
        x.finish(0, false);
        due("when it has ended", x.about(0, 1), 6);
        x.begin(0);
        due("a new one", x.about(0, 1), 0);
    }

    private static void aboutRefused() {
        says(16, "2 how many were refused (0 of write, link, remove)");
        SandboxTree x = begun(7);
        x.open(0, O);
        x.list(0, O, 0);
        due("0 of open and list", x.about(0, 2), 0);
        x.write(0, I, 1);
        due("write", x.about(0, 2), 1);
        x.link(0, I, O);
        due("link", x.about(0, 2), 2);
        x.remove(0, I);
        due("remove", x.about(0, 2), 3);
        x.write(0, O, 1);
        x.link(0, O, I);
        due("what is done", x.about(0, 2), 3);
        x.write(0, I, 1);
        x.remove(0, I);
        due("- 9", x.about(0, 2), 3);
        x.write(0, 44, 1);
        due("- 1", x.about(0, 2), 3);
        x.finish(0, false);
        due("when it has ended", x.about(0, 2), 3);
        x.begin(0);
        due("a new one", x.about(0, 2), 0);
    }

    private static void aboutBroken() {
        says(16, "3 whether it is BROKEN");
        SandboxTree x = begun(1);
        due("at first", x.about(0, 3), 0);
        x.write(0, I, 1);
        due("refused, not STRICT", x.about(0, 3), 0);
        x.open(0, I);
        due("- 9", x.about(0, 3), 1);
        x.finish(0, false);
        due("when it has ended", x.about(0, 3), 1);
        x.begin(0);
        due("a new one", x.about(0, 3), 0);
        due("ends LACKING", x.finish(0, false), -10);
        due("which doesn't break it", x.about(0, 3), 0);
        x.begin(0);
        x.finish(0, true);
        due("nor does that it failed", x.about(0, 3), 0);
    }

    private static void aboutNoneSuch() {
        says(16, "NONE if there is none such, for another what");
        SandboxTree x = begun(5);
        for (int what = 0; what <= 3; what++) {
            for (int action : NO_ACTIONS) {
                due("ACTION " + action, x.about(action, what), -1);
            }
        }
        for (int what : new int[] {-1, -2, 4, 5, 64, 256, 257, Integer.MIN_VALUE, Integer.MAX_VALUE}) {
            due("what " + what, x.about(0, what), -1);
        }
        x.finish(0, true);
        due("what 4 when it has ended", x.about(0, 4), -1);
        x.action();
        due("what 4 of a new ACTION", x.about(1, 4), -1);
        due("what - 1 of a new ACTION", x.about(1, -1), -1);
    }

    private static void aboutNoWorldYet() {
        says(16, "or of 1 to 3 if it had no WORLD yet");
        SandboxTree x = declared(5);
        for (int what = 1; what <= 3; what++) {
            due("what " + what, x.about(0, what), -1);
        }
        due("what 0", x.about(0, 0), 0);
        x.begin(0);
        for (int what = 1; what <= 3; what++) {
            due("then what " + what, x.about(0, what), 0);
        }
        x.action();
        for (int what = 1; what <= 3; what++) {
            due("of another what " + what, x.about(1, what), -1);
        }
    }

    private static void promises1To4() {
        noPathsButTheRoot();
        noSource();
        noActions();
        limitBelowOne();
        limitAbove500();
        soManyAWorld();
        pathThere();
        pathNoneSuch();
        pathNoLetter();
        pathSixty();
        pathThereOfSixty();
        fileNoSuchPath();
        fileTheRoot();
        fileBelowNothing();
        fileNothing();
        fileInTheWayAbove();
        fileInTheWayBelow();
        fileAlone();
        sourceNone();
        sourceSeesNoWorld();
    }

    private static void promises5To8() {
        actionsAreTen();
        declareNoneSuch();
        declareTheRoot();
        declareTwelve();
        declareInItsWorld();
        declareAfterNoBegin();
        declareNotAsTold();
        strictBreaks();
        strictSparesTheRest();
        strictAtOnce();
        beginCounts();
        beginNoneSuch();
        beginThere();
        beginNoFile();
        beginOutputsMayLack();
        beginIsNotBegun();
    }

    private static void promises9To13() {
        openTried();
        openFoundIsNotTried();
        openNoSuch();
        openOverLimit();
        noSuchBreaksNothing();
        writeInPlace();
        writeNotWritable();
        writeInTheWay();
        writeBelowOne();
        writeAsOpen();
        linkInPlace();
        linkNotWritable();
        linkInTheWay();
        linkOutside();
        linkAsOpen();
        removeGoes();
        removeNotWritable();
        removeNothing();
        removeAsOpen();
        listByCodes();
        listUnderWhich();
        listNoneSuch();
        listAsOpen();
    }

    private static void promises14To16() {
        finishEnds();
        finishNoneSuch();
        finishFailed();
        finishBroken();
        finishLacking();
        finishLoose();
        finishFirst();
        finishClashing();
        finishInTheWay();
        finishNotInTheWay();
        finishClashingFirst();
        finishCounts();
        finishOtherwise();
        triedNone();
        triedAll();
        triedLatest();
        aboutThere();
        aboutOperations();
        aboutRefused();
        aboutBroken();
        aboutNoneSuch();
        aboutNoWorldYet();
    }

    public static void main(String[] args) {
        promises1To4();
        promises5To8();
        promises9To13();
        promises14To16();
        System.out.println(wrong == 0 ? "all answers are as due" : wrong + " answers are not as due");
        if (wrong != 0) {
            System.exit(1);
        }
    }
}
