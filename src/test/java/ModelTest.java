import java.util.ArrayList;
import java.util.List;
import java.util.Map;
import java.util.Random;
import java.util.TreeMap;
import java.util.TreeSet;

/**
 * Runs of calls, made from fixed seeds, on SandboxTree and on a second model that follows the document's
 * words one by one: a PATH is the text of its LETTERS, UNDER is startsWith.
 */
public final class ModelTest {
    private static final int RUNS = 4000;
    private static final int CALLS = 512;

    /** A FILE (link is null) or a LINK. */
    private record Thing(int content, String link) { }

    private static final class Step {
        final List<String> declared = new ArrayList<>();
        final List<Boolean> output = new ArrayList<>();
        TreeMap<String, Thing> world;
        boolean there;
        boolean broken;
        int operations;
        int refused;
        final List<Integer> tried = new ArrayList<>();

        boolean isUnder(String path, boolean wanted) {
            for (int n = 0; n < declared.size(); n++) {
                if (output.get(n) == wanted && path.startsWith(declared.get(n))) {
                    return true;
                }
            }
            return false;
        }

        boolean isWritable(String path) {
            boolean scratch = path.startsWith("z") && path.length() > 1 && !isUnder(path, false);
            return isUnder(path, true) || scratch;
        }

        int leadsTo(String path, int linksLeft) {
            Thing thing = world.get(path);
            if (thing == null) {
                return 0;
            }
            if (thing.link() == null) {
                return thing.content();
            }
            return linksLeft == 0 ? 0 : leadsTo(thing.link(), linksLeft - 1);
        }
    }

    private static final class Model {
        final int limit;
        final List<String> paths = new ArrayList<>(List.of(""));
        final TreeMap<String, Integer> source = new TreeMap<>();
        final List<Step> steps = new ArrayList<>();
        boolean strict;

        Model(int limit) {
            this.limit = limit < 1 ? 1 : limit > 500 ? 500 : limit;
        }

        boolean has(int path) {
            return path >= 0 && path < paths.size();
        }

        Step step(int action) {
            return action >= 0 && action < steps.size() ? steps.get(action) : null;
        }

        static boolean related(String one, String other) {
            return one.startsWith(other) || other.startsWith(one);
        }

        static boolean inTheWay(Iterable<String> taken, String path) {
            for (String other : taken) {
                if (!other.equals(path) && related(other, path)) {
                    return true;
                }
            }
            return false;
        }

        int path(int parent, char letter) {
            boolean isLetter = "abcdefghijklmnopqrstuvwxyzABCDEFGHIJKLMNOPQRSTUVWXYZ".indexOf(letter) >= 0;
            if (!has(parent) || !isLetter) {
                return -1;
            }
            String text = paths.get(parent) + letter;
            if (!paths.contains(text)) {
                if (paths.size() == 60) {
                    return -1;
                }
                paths.add(text);
            }
            return paths.indexOf(text);
        }

        int file(int path, int content) {
            if (!has(path) || path == 0 || content < 0 || inTheWay(source.keySet(), paths.get(path))) {
                return 0;
            }
            source.remove(paths.get(path));
            if (content > 0) {
                source.put(paths.get(path), content);
            }
            return 1;
        }

        int source(int path) {
            return has(path) ? source.getOrDefault(paths.get(path), 0) : 0;
        }

        int action() {
            if (steps.size() == 10) {
                return -1;
            }
            steps.add(new Step());
            return steps.size() - 1;
        }

        int declare(int action, int path, boolean output) {
            Step s = step(action);
            if (s == null || !has(path) || path == 0 || s.declared.size() == 12 || s.there) {
                return -1;
            }
            for (String other : s.declared) {
                if (related(other, paths.get(path))) {
                    return -2;
                }
            }
            s.declared.add(paths.get(path));
            s.output.add(output);
            return 1;
        }

        int begin(int action) {
            Step s = step(action);
            if (s == null || s.there) {
                return -1;
            }
            TreeMap<String, Thing> world = new TreeMap<>();
            for (int n = 0; n < s.declared.size(); n++) {
                if (!s.output.get(n)) {
                    boolean found = false;
                    for (Map.Entry<String, Integer> f : source.entrySet()) {
                        if (f.getKey().startsWith(s.declared.get(n))) {
                            world.put(f.getKey(), new Thing(f.getValue(), null));
                            found = true;
                        }
                    }
                    if (!found) {
                        return -2;
                    }
                }
            }
            s.world = world;
            s.there = true;
            s.broken = false;
            s.operations = 0;
            s.refused = 0;
            s.tried.clear();
            return world.size();
        }

        /** 1 if an OPERATION may go on, else what it answers. */
        int enter(int action, int path, int other) {
            Step s = step(action);
            if (s == null || !s.there || !has(path) || !has(other)) {
                return -1;
            }
            if (s.operations == limit) {
                s.broken = true;
                return -9;
            }
            s.operations++;
            return 1;
        }

        int refused(Step s) {
            s.refused++;
            s.broken |= strict;
            return 0;
        }

        int open(int action, int path) {
            int entered = enter(action, path, 0);
            if (entered != 1) {
                return entered;
            }
            int content = step(action).leadsTo(paths.get(path), 4);
            if (content == 0 && !step(action).tried.contains(path)) {
                step(action).tried.add(path);
            }
            return content;
        }

        int write(int action, int path, int content) {
            int entered = enter(action, path, 0);
            if (entered != 1) {
                return entered;
            }
            Step s = step(action);
            String at = paths.get(path);
            if (!s.isWritable(at) || inTheWay(s.world.keySet(), at) || content < 1) {
                return refused(s);
            }
            s.world.put(at, new Thing(content, null));
            return 1;
        }

        int link(int action, int path, int to) {
            int entered = enter(action, path, to);
            if (entered != 1) {
                return entered;
            }
            Step s = step(action);
            String at = paths.get(path);
            String other = paths.get(to);
            boolean inside = s.isWritable(other) || s.isUnder(other, false);
            if (!s.isWritable(at) || inTheWay(s.world.keySet(), at) || !inside) {
                return refused(s);
            }
            s.world.put(at, new Thing(0, other));
            return 1;
        }

        int remove(int action, int path) {
            int entered = enter(action, path, 0);
            if (entered != 1) {
                return entered;
            }
            Step s = step(action);
            if (!s.isWritable(paths.get(path)) || s.world.remove(paths.get(path)) == null) {
                return refused(s);
            }
            return 1;
        }

        int list(int action, int folder, int i) {
            int entered = enter(action, folder, 0);
            if (entered != 1) {
                return entered;
            }
            String above = paths.get(folder);
            TreeSet<Character> letters = new TreeSet<>();
            for (String other : step(action).world.keySet()) {
                if (other.startsWith(above) && other.length() > above.length()) {
                    letters.add(other.charAt(above.length()));
                }
            }
            return i >= 0 && i < letters.size() ? new ArrayList<>(letters).get(i) : 0;
        }

        int finish(int action, boolean failed) {
            Step s = step(action);
            if (s == null || !s.there) {
                return -1;
            }
            s.there = false;
            if (failed) {
                return 0;
            }
            if (s.broken) {
                return -2;
            }
            int fault = outputFault(s);
            return fault != 0 ? fault : gather(s);
        }

        int outputFault(Step s) {
            int k = -1;
            for (int n = 0; n < s.declared.size(); n++) {
                if (s.output.get(n)) {
                    k++;
                    boolean lacking = true;
                    boolean loose = false;
                    for (String at : s.world.keySet()) {
                        if (at.startsWith(s.declared.get(n))) {
                            lacking = false;
                            loose |= s.leadsTo(at, 4) == 0;
                        }
                    }
                    if (lacking || loose) {
                        return (lacking ? -10 : -11) - 2 * k;
                    }
                }
            }
            return 0;
        }

        int gather(Step s) {
            TreeMap<String, Integer> coming = new TreeMap<>();
            TreeSet<String> seen = new TreeSet<>();
            for (String at : s.world.keySet()) {
                if (s.isUnder(at, true)) {
                    coming.put(at, s.leadsTo(at, 4));
                    for (int n = 1; n <= at.length(); n++) {
                        seen.add(at.substring(0, n));
                    }
                }
            }
            for (String one : seen) {
                for (String other : seen) {
                    int last = one.length() - 1;
                    if (!one.equals(other) && one.equalsIgnoreCase(other)
                        && one.substring(0, last).equals(other.substring(0, last))) {
                        return -3;
                    }
                }
            }
            TreeMap<String, Integer> staying = new TreeMap<>(source);
            staying.keySet().removeIf(at -> s.isUnder(at, true));
            for (String at : coming.keySet()) {
                if (inTheWay(staying.keySet(), at)) {
                    return -4;
                }
            }
            source.clear();
            source.putAll(staying);
            source.putAll(coming);
            return coming.size();
        }

        int tried(int action, int i) {
            Step s = step(action);
            return s != null && i >= 0 && i < s.tried.size() ? s.tried.get(i) : -1;
        }

        int about(int action, int what) {
            Step s = step(action);
            if (s == null || what < 0 || what > 3 || what > 0 && s.world == null) {
                return -1;
            }
            return what == 0 ? (s.there ? 1 : 0) : what == 1 ? s.operations : what == 2 ? s.refused : s.broken ? 1 : 0;
        }
    }

    private final Random random;
    private final SandboxTree tree;
    private final Model model;
    private final String letters;
    private final int run;
    private final int[] answers;
    private int wrong;

    private ModelTest(int run, int[] answers) {
        this.run = run;
        this.answers = answers;
        random = new Random(run);
        int limit = run % 5 == 0 ? random.nextInt(12) - 2 : 20 + random.nextInt(500);
        tree = new SandboxTree(limit);
        model = new Model(limit);
        letters = run % 3 == 0 ? "zab" : run % 3 == 1 ? "zaAbBc" : "zaAbcdefghijklmnopqrstuvwxyZ";
    }

    private int someOf(int count) {
        int odd = random.nextInt(150);
        if (odd < 3) {
            return odd == 0 ? -1 : odd == 1 ? count : random.nextInt();
        }
        return random.nextInt(Math.max(1, count));
    }

    private int somePath() {
        return someOf(model.paths.size());
    }

    private int someAction() {
        return someOf(run % 2 == 0 ? Math.min(2, model.steps.size()) : model.steps.size());
    }

    private char someLetter() {
        int odd = random.nextInt(100);
        return odd == 0 ? "@[`{".charAt(random.nextInt(4)) : odd == 1 ? (char) random.nextInt(65536)
            : letters.charAt(random.nextInt(letters.length()));
    }

    private int someContent() {
        return random.nextInt(12) - (random.nextInt(6) == 0 ? 3 : -1);
    }

    private void compare(String call, int got, int want) {
        if (got != want) {
            wrong++;
            System.out.println("run " + run + ": " + call + " answered " + got + ", the model " + want);
        }
    }

    private void finishBoth(int a) {
        boolean failed = random.nextInt(12) == 0;
        int want = model.finish(a, failed);
        compare("finish(" + a + ", " + failed + ")", tree.finish(a, failed), want);
        int slot = want > 0 ? 0 : -want;
        if (!failed && slot < answers.length) {
            answers[slot]++;
        }
    }

    private void growOrDeclare(int kind) {
        int a = someAction();
        int p = somePath();
        int content = someContent();
        if (kind < 9) {
            char letter = someLetter();
            compare("path(" + p + ", " + (int) letter + ")", tree.path(p, letter), model.path(p, letter));
        } else if (kind < 15) {
            compare("file(" + p + ", " + content + ")", tree.file(p, content) ? 1 : 0, model.file(p, content));
        } else if (kind < 17) {
            compare("action()", tree.action(), model.action());
        } else if (kind < 22) {
            boolean output = random.nextBoolean();
            compare("declare(" + a + ", " + p + ", " + output + ")", tree.declare(a, p, output),
                model.declare(a, p, output));
        } else {
            boolean on = random.nextInt(4) == 0;
            tree.strict(on);
            model.strict = on;
        }
    }

    private void operate(int kind) {
        int a = someAction();
        int p = somePath();
        int to = somePath();
        int content = someContent();
        if (kind < 35) {
            compare("open(" + a + ", " + p + ")", tree.open(a, p), model.open(a, p));
        } else if (kind < 55) {
            compare("write(" + a + ", " + p + ", " + content + ")", tree.write(a, p, content),
                model.write(a, p, content));
        } else if (kind < 67) {
            compare("link(" + a + ", " + p + ", " + to + ")", tree.link(a, p, to), model.link(a, p, to));
        } else if (kind < 71) {
            compare("remove(" + a + ", " + p + ")", tree.remove(a, p), model.remove(a, p));
        } else {
            int i = someOf(4);
            compare("list(" + a + ", " + p + ", " + i + ")", tree.list(a, p, i), model.list(a, p, i));
        }
    }

    private void ask(int kind) {
        int a = someAction();
        int p = somePath();
        if (kind < 88) {
            int i = someOf(4);
            compare("tried(" + a + ", " + i + ")", tree.tried(a, i), model.tried(a, i));
        } else if (kind < 94) {
            int what = someOf(4);
            compare("about(" + a + ", " + what + ")", tree.about(a, what), model.about(a, what));
        } else {
            compare("source(" + p + ")", tree.source(p), model.source(p));
        }
    }

    private void call() {
        int kind = random.nextInt(100);
        if (kind < 23) {
            growOrDeclare(kind);
        } else if (kind < 76) {
            operate(kind);
        } else if (kind < 81) {
            int a = someAction();
            compare("begin(" + a + ")", tree.begin(a), model.begin(a));
        } else if (kind < 85) {
            finishBoth(someAction());
        } else {
            ask(kind);
        }
    }

    public static void main(String[] args) {
        int[] answers = new int[16];
        int wrong = 0;
        for (int run = 0; run < RUNS && wrong == 0; run++) {
            ModelTest test = new ModelTest(run, answers);
            for (int n = 0; n < CALLS && test.wrong == 0; n++) {
                test.call();
            }
            wrong += test.wrong;
        }
        // Runs that never end a WORLD in each way would compare too little.
        for (int slot : new int[] {0, 1, 2, 3, 4, 10, 11, 12, 13}) {
            if (answers[slot] < 20) {
                wrong++;
                System.out.println("finish answered " + -slot + " only " + answers[slot] + " times");
            }
        }
        System.out.println(wrong == 0 ? "all answers are as the model's" : wrong + " answers are not as due");
        if (wrong != 0) {
            System.exit(1);
        }
    }
}
