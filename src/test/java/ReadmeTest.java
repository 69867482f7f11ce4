import java.io.IOException;
import java.lang.reflect.Method;
import java.lang.reflect.Modifier;
import java.nio.file.Files;
import java.nio.file.Path;
import java.util.ArrayList;
import java.util.List;

/**
 * README.md's example is as the class answers, its tables have a row for each call and each answer of
 * finish, and the class has the readings that README.md tells (their words are not compared).
 */
public final class ReadmeTest {
    private static int wrong = 0;
    private static List<String> readme;
    private static List<String> example;
    private static int nextLine = 0;

    public static void main(String[] args) throws IOException {
        // .ci/run runs each test from the project's own folder.
        readme = Files.readAllLines(Path.of("README.md"));
        example = linesOfExample();
        exampleAnswersWhatItSays();
        everyCallIsTold();
        finishAnswersAreTold();
        readings();
        System.out.println(wrong == 0 ? "README.md's example and rows are as due" : wrong + " answers or rows are not as due");
        if (wrong != 0) {
            System.exit(1);
        }
    }

    private static void fault(String text) {
        wrong++;
        System.out.println(text);
    }

    private static void due(String call, int got, int want) {
        if (got != want) {
            fault(call + " answered " + got + ", due is " + want);
        }
    }

    private static void due(String call, boolean got, boolean want) {
        due(call, got ? 1 : 0, want ? 1 : 0);
    }

    private static List<String> linesOfExample() {
        List<String> lines = new ArrayList<>();
        boolean inside = false;
        for (String line : readme) {
            if (line.startsWith("```")) {
                inside = line.equals("```java");
            } else if (inside && !line.isBlank()) {
                lines.add(line);
            }
        }
        return lines;
    }

    private static void told(String call, Object got) {
        if (nextLine >= example.size()) {
            fault("README.md's example lacks " + call);
            return;
        }
        String line = example.get(nextLine);
        nextLine++;
        int comment = line.indexOf("//");
        String code = comment < 0 ? line : line.substring(0, comment).trim();
        String answer = comment < 0 ? "" : line.substring(comment + 2).trim().split(":")[0];
        if (!code.equals(call)) {
            fault("README.md's example has '" + code + "' where '" + call + "' is run");
        } else if (!answer.equals(String.valueOf(got))) {
            fault("README.md tells '" + answer + "' of " + call + ", which answered " + got);
        }
    }

    private static void exampleAnswersWhatItSays() {
        SandboxTree x = new SandboxTree(100);
        told("SandboxTree x = new SandboxTree(100);", "at most 100 operations a world");
        int in = x.path(0, 's');
        told("int in = x.path(0, 's');", in);
        int out = x.path(0, 'o');
        told("int out = x.path(0, 'o');", out);
        int top = x.path(0, 'z');
        told("int top = x.path(0, 'z');", top);
        int scratch = x.path(top, 't');
        told("int scratch = x.path(top, 't');", scratch);
        told("x.file(in, 7);", x.file(in, 7));
        int step = x.action();
        told("int step = x.action();", step);
        told("x.declare(step, in, false);", x.declare(step, in, false));
        told("x.declare(step, out, true);", x.declare(step, out, true));
        told("x.begin(step);", x.begin(step));
        told("x.open(step, in);", x.open(step, in));
        told("x.open(step, out);", x.open(step, out));
        told("x.tried(step, 0);", x.tried(step, 0));
        told("x.write(step, in, 8);", x.write(step, in, 8));
        told("x.write(step, scratch, 9);", x.write(step, scratch, 9));
        told("x.link(step, out, scratch);", x.link(step, out, scratch));
        told("x.list(step, 0, 0);", x.list(step, 0, 0));
        told("x.about(step, 1);", x.about(step, 1));
        told("x.about(step, 2);", x.about(step, 2));
        told("x.finish(step, false);", x.finish(step, false));
        told("x.source(out);", x.source(out));
        told("x.source(scratch);", x.source(scratch));
        if (nextLine != example.size()) {
            fault("README.md's example has lines that aren't run: from '" + example.get(nextLine) + "'");
        }
    }

    private static boolean hasRow(String start) {
        for (String line : readme) {
            if (line.startsWith(start)) {
                return true;
            }
        }
        return false;
    }

    private static void everyCallIsTold() {
        for (Method method : SandboxTree.class.getDeclaredMethods()) {
            boolean isFace = Modifier.isPublic(method.getModifiers());
            if (isFace && !hasRow("| `" + method.getName() + "(")) {
                fault("README.md's table of calls lacks " + method.getName());
            }
        }
    }

    private static void toldOfFinish(String answer, int got, int want) {
        if (!hasRow("| " + answer + " |")) {
            fault("README.md's table of finish lacks " + answer);
        }
        due("finish, told as " + answer, got, want);
    }

    /** ACTION 0 with OUTPUTS a (PATH 1) and b (PATH 2), and a FILE at a; its WORLD is there. */
    private static SandboxTree twoOutputs() {
        SandboxTree x = new SandboxTree(2);
        x.path(0, 'a');
        x.path(0, 'b');
        x.action();
        x.declare(0, 1, true);
        x.declare(0, 2, true);
        x.begin(0);
        x.write(0, 1, 5);
        return x;
    }

    private static void finishAnswersAreTold() {
        toldOfFinish("-1", new SandboxTree(1).finish(0, false), -1);
        toldOfFinish("0", twoOutputs().finish(0, true), 0);
        SandboxTree none = new SandboxTree(1);
        none.action();
        none.begin(0);
        toldOfFinish("0", none.finish(0, false), 0);
        SandboxTree over = twoOutputs();
        over.write(0, 2, 5);
        over.write(0, 2, 6);
        toldOfFinish("-2", over.finish(0, false), -2);
        toldOfFinish("-10 - 2k", twoOutputs().finish(0, false), -12);
        SandboxTree loose = twoOutputs();
        loose.link(0, 2, 2);
        toldOfFinish("-11 - 2k", loose.finish(0, false), -13);
        SandboxTree clashing = new SandboxTree(9);
        clashing.action();
        clashing.declare(0, clashing.path(0, 'a'), true);
        clashing.declare(0, clashing.path(0, 'A'), true);
        clashing.begin(0);
        clashing.write(0, 1, 5);
        clashing.write(0, 2, 5);
        toldOfFinish("-3", clashing.finish(0, false), -3);
        SandboxTree inTheWay = new SandboxTree(9);
        inTheWay.action();
        inTheWay.declare(0, inTheWay.path(inTheWay.path(0, 'a'), 'b'), true);
        inTheWay.file(1, 7);
        inTheWay.begin(0);
        inTheWay.write(0, 2, 5);
        toldOfFinish("-4", inTheWay.finish(0, false), -4);
    }

    private static void readings() {
        pathIsFoundAmongSixty();
        fileInTheWayOfNone();
        minusOneIsNoOperation();
        strictLooksAhead();
        beginAnew();
        outputsOnce();
        clashWithWhatStays();
    }

    private static void pathIsFoundAmongSixty() {
        SandboxTree x = new SandboxTree(1);
        for (int made = 1; made < 60; made++) {
            x.path(made - 1, 'a');
        }
        due("path that is there, of 60", x.path(0, 'a'), 1);
        due("new path, of 60", x.path(0, 'b'), SandboxTree.NONE);
    }

    private static void fileInTheWayOfNone() {
        SandboxTree x = new SandboxTree(1);
        x.file(x.path(0, 'a'), 7);
        due("file(path, 0) in a file", x.file(x.path(1, 'b'), 0), false);
    }

    private static void minusOneIsNoOperation() {
        SandboxTree x = twoOutputs();
        due("link to no path", x.link(0, 2, 9), -1);
        due("operations", x.about(0, 1), 1);
        due("refused", x.about(0, 2), 0);
        x.open(0, 1);
        due("open no path, at the limit", x.open(0, 9), -1);
        due("not broken", x.about(0, 3), 0);
        due("open a path, at the limit", x.open(0, 1), -9);
        due("broken", x.about(0, 3), 1);
    }

    private static void strictLooksAhead() {
        SandboxTree x = twoOutputs();
        due("write at the root", x.write(0, 0, 5), 0);
        x.strict(true);
        due("not broken by what was refused before", x.about(0, 3), 0);
    }

    private static void beginAnew() {
        SandboxTree x = new SandboxTree(9);
        x.file(x.path(0, 'a'), 7);
        x.action();
        x.declare(0, 1, false);
        x.begin(0);
        x.open(0, 0);
        x.finish(0, true);
        x.file(1, 0);
        due("begin without an input's file", x.begin(0), -2);
        due("operations as they were", x.about(0, 1), 1);
        due("tried as it was", x.tried(0, 0), 0);
        x.file(1, 8);
        due("begin", x.begin(0), 1);
        due("operations afresh", x.about(0, 1), 0);
        due("tried afresh", x.tried(0, 0), SandboxTree.NONE);
    }

    private static void outputsOnce() {
        SandboxTree x = twoOutputs();
        x.link(0, 1, 1);
        due("a loose output before one that lacks", x.finish(0, false), -11);
    }

    private static void clashWithWhatStays() {
        SandboxTree x = twoOutputs();
        x.file(x.path(0, 'A'), 7);
        x.write(0, 2, 5);
        due("a file that stays at A, one that comes at a", x.finish(0, false), 2);
        due("what stays", x.source(3), 7);
        due("what came", x.source(1), 5);
    }
}
