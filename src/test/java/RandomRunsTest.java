import java.util.ArrayList;
import java.util.List;
import java.util.Map;
import java.util.Random;
import java.util.TreeMap;

/** Long runs of calls, drawn from fixed seeds, in which the class must answer as Model does. */
public final class RandomRunsTest {
    private static final int RUNS = 1500;
    private static final int CALLS = 512;

    /** How often each call is drawn: many that build, few that tear all down. */
    private static final String[] DRAWN = {
        "user 3", "file 10", "folder 6", "link 6", "hard 5", "rename 12", "remove 6", "rights 2", "own 2", "look 6",
        "open 9", "close 4", "write 22", "read 6", "ahead 6", "cut 2", "lock 6", "unlock 2", "lockOf 2", "flush 2",
        "sync 2", "commit 2", "crash 1", "snapshot 3", "drop 2", "readOld 5", "quota 2", "bad 2", "damage 5",
        "check 3", "about 10", "entry 6", "target 3", "page 10", "number 4", "isFree 5", "used 4", "dirty 2"
    };

    private final Random random;
    private final List<String> draws = new ArrayList<>();
    private final int names;
    private final boolean isWild;
    // What is likely to be there, so that most calls have something to act on.
    private final List<Integer> paths = new ArrayList<>();
    private final List<Integer> open = new ArrayList<>();

    private RandomRunsTest(int seed) {
        random = new Random(seed);
        names = 2 + random.nextInt(8);
        isWild = random.nextInt(4) == 0;
        for (String drawn : DRAWN) {
            String[] parts = drawn.split(" ");
            for (int i = 0; i < Integer.parseInt(parts[1]); i++) draws.add(parts[0]);
        }
    }

    public static void main(String[] args) {
        int wrong = 0;
        TreeMap<String, int[]> ends = new TreeMap<>();
        for (int seed = 0; seed < RUNS && wrong < 5; seed++) {
            wrong += new RandomRunsTest(seed).run(seed, ends);
        }
        if (args.length > 0) {
            for (Map.Entry<String, int[]> end : ends.entrySet()) {
                System.out.println(end.getKey() + ": answered " + end.getValue()[0] + ", argument " + end.getValue()[1]
                        + ", index " + end.getValue()[2] + ", state " + end.getValue()[3]);
            }
        }
        System.out.println("RandomRunsTest: " + RUNS * CALLS + " calls, " + wrong + " runs not as due");
        if (wrong != 0) System.exit(1);
    }

    private int run(int seed, TreeMap<String, int[]> ends) {
        Inodery x = new Inodery();
        Model model = new Model();
        List<String> told = new ArrayList<>();
        for (int i = 0; i < CALLS; i++) {
            String call = drawn(seed % 4);
            int[] a = argumentsOf(call);
            String due = ended(() -> model.answer(call, a[0], a[1], a[2], a[3]));
            String got = ended(() -> answer(x, call, a));
            told.add(call + "(" + a[0] + ", " + a[1] + ", " + a[2] + ", " + a[3] + ") " + got);
            int kind = List.of("IllegalArgument", "IndexOutOfBounds", "IllegalState").indexOf(due) + 1;
            ends.computeIfAbsent(call, key -> new int[4])[kind]++;
            if (kind == 0) remember(call, a, Integer.parseInt(due));
            if (!due.equals(got)) {
                System.out.println("seed " + seed + ", due is " + due + ":\n" + String.join("\n", told));
                return 1;
            }
        }
        return 0;
    }

    /** A call; crashes close all handles, so most of them are left out, in a quarter of the runs all. */
    private String drawn(int crashes) {
        String call = draws.get(random.nextInt(draws.size()));
        return call.equals("crash") && random.nextInt(4) >= crashes ? "dirty" : call;
    }

    private void remember(String call, int[] a, int answer) {
        switch (call) {
            case "file": case "folder": case "link": paths.add(a[0]); break;
            case "hard": case "rename": paths.add(a[1]); break;
            case "open": open.add(answer); break;
            case "close": open.remove(Integer.valueOf(a[0])); break;
            case "crash": open.clear(); break;
            default: break;
        }
    }

    private static String ended(Due.Call call) {
        try {
            return String.valueOf(call.answer());
        } catch (RuntimeException e) {
            return e.getClass().getSimpleName().replace("Exception", "");
        }
    }

    /** A number from one to another, rarely one beside them, or far off. */
    private int from(int first, int last) {
        int odds = random.nextInt(isWild ? 20 : 60);
        if (odds == 0) return first - 1;
        if (odds == 1) return last + 1;
        if (odds == 2 && isWild) return oneOf(Integer.MIN_VALUE, Integer.MAX_VALUE, -1000, 1000);
        return first + random.nextInt(last - first + 1);
    }

    private int path() {
        int odds = random.nextInt(60);
        if (odds == 0) return random.nextInt(3) * 50000000;
        if (odds == 1) return 0;
        if (odds == 2 && isWild) return oneOf(Integer.MIN_VALUE, Integer.MAX_VALUE, 99999999, 100000000);
        if (odds < 30 && !paths.isEmpty()) return paths.get(random.nextInt(paths.size()));
        int path = 0;
        if (odds < 45 && !paths.isEmpty()) path = paths.get(random.nextInt(paths.size())) % 1000000;
        if (path > 0) return path * 100 + 1 + random.nextInt(names);
        int many = 1 + random.nextInt(2) + random.nextInt(2) * random.nextInt(3);
        for (int i = 0; i < many; i++) {
            path = path * 100 + (random.nextInt(40) == 0 ? 0 : 1 + random.nextInt(names));
        }
        return path;
    }

    private int thing() {
        return random.nextInt(3) == 0 ? from(0, 31) : from(0, 9);
    }

    private int handle() {
        return open.isEmpty() || random.nextInt(20) == 0 ? from(0, 29) : open.get(random.nextInt(open.size()));
    }

    private int pageNumber() {
        return random.nextInt(3) == 0 ? from(0, 15) : random.nextInt(4);
    }

    private int oneOf(int... choices) {
        return choices[random.nextInt(choices.length)];
    }

    private int[] argumentsOf(String call) {
        switch (call) {
            case "user": return of(oneOf(0, 0, 0, from(0, 3)));
            case "file": case "folder": return of(path(), oneOf(15, 15, from(0, 15)));
            case "link": case "hard": case "rename": return of(path(), path());
            case "remove": return of(path());
            case "rights": return of(path(), oneOf(15, from(0, 15)));
            case "own": return of(path(), from(0, 3));
            case "look": return of(path(), random.nextInt(2));
            case "open": return of(path(), oneOf(1, 1, 0));
            case "close": case "sync": return of(handle());
            case "write": return of(handle(), pageNumber(), from(0, 255));
            case "read": case "cut": case "lockOf": return of(handle(), pageNumber());
            case "ahead": case "unlock": case "lock": return pagesOf();
            case "flush": return of(oneOf(1, 2, 3, from(1, 512)));
            case "drop": return of(from(0, 2));
            case "readOld": return of(from(0, 2), path(), pageNumber());
            case "quota": return of(from(0, 3), oneOf(64, 64, from(0, 64), 5));
            case "bad": return of(from(0, 63), random.nextInt(2));
            case "damage": return of(from(0, 2), thing(), thing());
            case "about": return of(thing(), from(0, 6));
            case "entry": return of(thing(), from(0, 7));
            case "target": return of(thing());
            case "page": return of(thing(), pageNumber(), from(0, 2));
            case "number": case "isFree": return of(from(0, 63));
            case "used": return of(from(0, 3));
            default: return of();
        }
    }

    private int[] pagesOf() {
        int first = pageNumber();
        int last = random.nextInt(20) == 0 ? pageNumber() : Math.min(first + random.nextInt(5), from(15, 15));
        return of(handle(), first, last, random.nextInt(2));
    }

    private static int[] of(int... given) {
        int[] all = new int[4];
        System.arraycopy(given, 0, all, 0, given.length);
        return all;
    }

    private static long answer(Inodery x, String call, int[] a) {
        switch (call) {
            case "user": return x.user(a[0]);
            case "file": return x.file(a[0], a[1]);
            case "folder": return x.folder(a[0], a[1]);
            case "link": return x.link(a[0], a[1]);
            case "hard": return x.hard(a[0], a[1]);
            case "rename": return x.rename(a[0], a[1]);
            case "remove": return x.remove(a[0]) ? 1 : 0;
            case "rights": return x.rights(a[0], a[1]);
            case "own": return x.own(a[0], a[1]);
            case "look": return x.look(a[0], a[1] == 1);
            case "open": return x.open(a[0], a[1] == 1);
            case "close": return x.close(a[0]) ? 1 : 0;
            case "write": return x.write(a[0], a[1], a[2]);
            case "read": return x.read(a[0], a[1]);
            case "ahead": return x.ahead(a[0], a[1], a[2]);
            case "cut": return x.cut(a[0], a[1]);
            case "lock": return x.lock(a[0], a[1], a[2], a[3] == 1);
            case "unlock": return x.unlock(a[0], a[1], a[2]);
            case "lockOf": return x.lockOf(a[0], a[1]);
            default: return answerOfDisk(x, call, a);
        }
    }

    private static long answerOfDisk(Inodery x, String call, int[] a) {
        switch (call) {
            case "flush": return x.flush(a[0]);
            case "sync": return x.sync(a[0]) ? 1 : 0;
            case "commit": return x.commit();
            case "crash": return x.crash();
            case "snapshot": return x.snapshot();
            case "drop": return x.drop(a[0]);
            case "readOld": return x.readOld(a[0], a[1], a[2]);
            case "quota": return x.quota(a[0], a[1]);
            case "bad": return x.bad(a[0], a[1] == 1) ? 1 : 0;
            case "damage": x.damage(a[0], a[1], a[2]); return 0;
            case "check": return x.check();
            case "about": return x.about(a[0], a[1]);
            case "entry": return x.entry(a[0], a[1]);
            case "target": return x.target(a[0]);
            case "page": return x.page(a[0], a[1], a[2]);
            case "number": return x.number(a[0]);
            case "isFree": return x.isFree(a[0]) ? 1 : 0;
            case "used": return x.used(a[0]);
            case "dirty": return x.dirty();
            default: throw new UnsupportedOperationException(call);
        }
    }
}
