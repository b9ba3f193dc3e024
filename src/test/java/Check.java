import java.util.ArrayList;
import java.util.List;

/** Counts tests and prints what is wrong; each run of calls is on a new object. */
final class Check {
    private int passed;
    private int failed;

    /** A run of calls, a line each: the call, a blank, the answer that is due. The model has to answer the same. */
    void run(String name, String lines) {
        PassNotes x = new PassNotes();
        Model model = new Model();
        List<String> wrong = new ArrayList<>();
        for (String line : lines.split("[\n;]")) {
            String text = line.trim();
            if (text.isEmpty()) {
                continue;
            }
            int end = text.indexOf(')') + 1;
            String call = text.substring(0, end);
            String due = text.substring(end).trim();
            String answer = Calls.answer(x, call);
            if (!due.equals(answer)) {
                wrong.add(call + " answered " + answer + ", due is " + due);
            }
            String said = model.answer(call);
            if (!due.equals(said)) {
                wrong.add("the model says " + said + " to " + call + ", due is " + due);
            }
        }
        that(name, wrong);
    }

    void that(String name, List<String> wrong) {
        if (wrong.isEmpty()) {
            passed++;
            return;
        }
        failed++;
        System.out.println("FAILED: " + name);
        wrong.forEach(w -> System.out.println("    " + w));
    }

    void end() {
        System.out.println(passed + " tests are right, " + failed + " wrong");
        if (failed > 0) {
            System.exit(1);
        }
    }
}
