import java.util.ArrayList;
import java.util.List;
import java.util.Set;

/** Counts tests and prints what is wrong; each run of calls is on a new object. */
final class Check {
    private static final Set<String> CHANGING = Set.of("hut", "pass", "setLength", "setOpen", "burn", "go");
    private static final long LONGEST_MILLIS = 300_000;

    private int passed;
    private int failed;

    Check() {
        Thread watch = new Thread(Check::stopWhatNeverEnds);
        watch.setDaemon(true);
        watch.start();
    }

    // A letter that goes round for ever would otherwise hold up .ci/run instead of failing it.
    private static void stopWhatNeverEnds() {
        try {
            Thread.sleep(LONGEST_MILLIS);
        } catch (InterruptedException e) {
            return;
        }
        System.out.println("FAILED: the tests do not end");
        System.out.flush();
        Runtime.getRuntime().halt(1);
    }

    /**
     * A run of calls, a line each: the call, a blank, the answer that is due. The model has to answer the same, and
     * what throws or only tells has to leave the digest as it was.
     */
    void run(String name, String lines) {
        PassNotes x = new PassNotes();
        Model model = new Model();
        List<String> wrong = new ArrayList<>();
        for (String line : lines.split("[\n;]")) {
            String text = line.trim();
            if (text.isEmpty()) {
                continue;
            }
            int end = text.indexOf(')') + 1;
            String call = text.substring(0, end);
            String due = text.substring(end).trim();
            String answer = due.startsWith("throws.") || !CHANGING.contains(Calls.name(call))
                ? answerWithoutChange(x, call, wrong) : Calls.answer(x, call);
            if (!due.equals(answer)) {
                wrong.add(call + " answered " + answer + ", due is " + due);
            }
            String said = model.answer(call);
            if (!due.equals(said)) {
                wrong.add("the model says " + said + " to " + call + ", due is " + due);
            }
        }
        that(name, wrong);
    }

    private static String answerWithoutChange(PassNotes x, String call, List<String> wrong) {
        long before = x.digest();
        String answer = Calls.answer(x, call);
        if (x.digest() != before) {
            wrong.add(call + " answered " + answer + " and changed the digest");
        }
        return answer;
    }

    void that(String name, List<String> wrong) {
        if (wrong.isEmpty()) {
            passed++;
            return;
        }
        failed++;
        System.out.println("FAILED: " + name);
        wrong.forEach(w -> System.out.println("    " + w));
    }

    void end() {
        System.out.println(passed + " tests are right, " + failed + " wrong");
        if (failed > 0) {
            System.exit(1);
        }
    }
}
