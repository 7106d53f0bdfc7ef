import java.util.ArrayList;
import java.util.List;
import java.util.function.Supplier;

/**
 * All that can be seen of an object. It asks many objects that were made alike, each a part, since an object is
 * used for 512 calls at most, and since some of the questions change what they ask for.
 */
final class Seen {
    interface Question {
        Object asked(Inodery x);
    }

    private static final int THINGS = 14;
    private static final int HANDLES = 6;
    private static final int MOST_QUESTIONS = 300;
    private static final int[] PATHS = {1, 2, 3, 4, 5, 6, 101, 102, 103, 104, 10301};

    private final Supplier<Inodery> maker;
    private final List<String> answers = new ArrayList<>();

    private Seen(Supplier<Inodery> maker) {
        this.maker = maker;
    }

    /** What can be seen of each object that a maker makes, an answer a line. */
    static List<String> of(Supplier<Inodery> maker) {
        Seen seen = new Seen(maker);
        List<Question> ofNow = questionsOfNow();
        seen.ask("now", ofNow, x -> 0);
        seen.ask("flushed", questionsOfBlocks(), x -> x.flush(512));
        seen.ask("crashed", ofNow, x -> x.crash());
        seen.ask("old", questionsOfSnapshots(), x -> 0);
        seen.ask("given", questionsThatChange(), x -> 0);
        return seen.answers;
    }

    private void ask(String when, List<Question> questions, Question before) {
        Inodery x = null;
        for (int i = 0; i < questions.size(); i++) {
            if (i % MOST_QUESTIONS == 0) {
                x = maker.get();
                answers.add(when + " begins with " + before.asked(x));
            }
            answers.add(when + " " + i + ": " + answerOf(questions.get(i), x));
        }
    }

    private static String answerOf(Question question, Inodery x) {
        try {
            return String.valueOf(question.asked(x));
        } catch (RuntimeException e) {
            return e.getClass().getSimpleName();
        }
    }

    private static List<Question> questionsOfNow() {
        List<Question> all = new ArrayList<>();
        for (int i = 0; i < 32; i++) {
            int thing = i;
            all.add(x -> x.about(thing, 0));
        }
        for (int i = 0; i < THINGS; i++) {
            addThing(all, i);
        }
        for (int i = 0; i < 4; i++) {
            int user = i;
            all.add(x -> x.used(user));
        }
        for (int i = 0; i < HANDLES; i++) {
            addHandle(all, i);
        }
        all.add(x -> x.dirty());
        all.addAll(questionsOfBlocks());
        return all;
    }

    private static void addThing(List<Question> all, int thing) {
        for (int i = 1; i < 7; i++) {
            int what = i;
            all.add(x -> x.about(thing, what));
        }
        for (int i = 0; i < 8; i++) {
            int place = i;
            all.add(x -> x.entry(thing, place));
        }
        all.add(x -> x.target(thing));
        for (int i = 0; i < 48; i++) {
            int page = i / 3;
            int what = i % 3;
            all.add(x -> x.page(thing, page, what));
        }
    }

    private static void addHandle(List<Question> all, int handle) {
        for (int i = 0; i < 16; i++) {
            int page = i;
            all.add(x -> x.lockOf(handle, page));
            all.add(x -> x.read(handle, page));
        }
    }

    private static List<Question> questionsOfBlocks() {
        List<Question> all = new ArrayList<>();
        for (int i = 0; i < 64; i++) {
            int block = i;
            all.add(x -> x.number(block));
            all.add(x -> x.isFree(block));
        }
        return all;
    }

    private static List<Question> questionsOfSnapshots() {
        List<Question> all = new ArrayList<>();
        for (int i = 0; i < 3; i++) {
            int snapshot = i;
            for (int path : PATHS) {
                all.add(x -> x.readOld(snapshot, path, 0));
                all.add(x -> x.readOld(snapshot, path, 15));
            }
        }
        return all;
    }

    /** Each of these tells what is nowhere else told, and changes it. */
    private static List<Question> questionsThatChange() {
        List<Question> all = new ArrayList<>();
        all.add(x -> x.user(0));
        for (int i = 0; i < 4; i++) {
            int user = i;
            all.add(x -> x.quota(user, 64));
        }
        for (int i = 0; i < 64; i++) {
            int block = i;
            all.add(x -> x.bad(block, false));
        }
        for (int i = 0; i < HANDLES; i++) {
            int handle = i;
            all.add(x -> x.cut(handle, 15));
        }
        all.add(x -> x.open(1, true));
        all.add(x -> x.open(102, true));
        for (int i = 0; i < HANDLES; i++) {
            int handle = i;
            all.add(x -> x.close(handle));
        }
        for (int i = 0; i < 3; i++) {
            int snapshot = i;
            all.add(x -> x.drop(snapshot));
        }
        all.add(x -> x.file(9, 15));
        return all;
    }
}
