import java.util.ArrayList;
import java.util.List;
import java.util.Random;
import java.util.Set;

/** Long runs of all calls, the same ones each time, in which the class has to answer as the model does. */
public final class RandomRunsTest {
    private static final int RUNS = 250;
    private static final int CALLS = 512;
    private static final int ENDLESS_RUNS = 5;
    private static final int ENDLESS_CALLS = 20_000;
    private static final int WRONG_RUNS_TOLD = 3;
    private static final Set<String> THROWN = Set.of(
        "throws.IndexOutOfBoundsException", "throws.IllegalArgumentException", "throws.IllegalStateException");

    private final Random random;
    private final int lengths;
    private final int areas;
    private int huts;
    private int passes;

    private RandomRunsTest(int seed) {
        random = new Random(seed);
        lengths = new int[] {2, 4, 12, 99}[random.nextInt(4)];
        areas = random.nextInt(4);
    }

    public static void main(String[] args) {
        Check check = new Check();
        int wrong = 0;
        for (int seed = 1; seed <= RUNS && wrong < WRONG_RUNS_TOLD; seed++) {
            List<String> differences = new RandomRunsTest(seed).differences();
            check.that("run " + seed, differences);
            wrong += differences.isEmpty() ? 0 : 1;
        }
        for (int seed = 1; seed <= ENDLESS_RUNS; seed++) {
            check.that("no call throws by itself, beyond 512 calls too, run " + seed,
                new RandomRunsTest(seed).thrownByItself());
        }
        check.end();
    }

    private List<String> differences() {
        PassNotes x = new PassNotes();
        Model model = new Model();
        List<String> made = new ArrayList<>();
        int first = 2 + random.nextInt(9);
        for (int call = 0; call < CALLS; call++) {
            String text = call < first ? "hut(" + area() + ")" : call < 2 * first + 2 ? pass() : next();
            made.add(text);
            String answer = Calls.answer(x, text);
            String due = model.answer(text);
            countWhatIsNew(text, due);
            if (!answer.equals(due)) {
                return List.of("call " + made.size() + " of " + made, text + " answered " + answer + ", due is " + due);
            }
        }
        return List.of();
    }

    private List<String> thrownByItself() {
        PassNotes x = new PassNotes();
        for (int call = 1; call <= ENDLESS_CALLS; call++) {
            String text = next();
            String answer = Calls.answer(x, text);
            countWhatIsNew(text, answer);
            if (answer.startsWith("throws.") && !THROWN.contains(answer)) {
                return List.of("call " + call + ": " + text + " answered " + answer);
            }
        }
        return List.of();
    }

    private void countWhatIsNew(String call, String answer) {
        huts += call.startsWith("hut") && !answer.startsWith("throws") ? 1 : 0;
        passes += call.startsWith("pass") && !answer.startsWith("throws") ? 1 : 0;
    }

    private String next() {
        switch (random.nextInt(32)) {
            case 0: return "hut(" + area() + ")";
            case 1: return pass();
            case 2: case 3: case 4: return "setLength(" + aPass() + ", " + length() + ")";
            case 5: case 6: return "setOpen(" + aPass() + ", false)";
            case 7: case 8: return "setOpen(" + aPass() + ", true)";
            case 9: return "burn(" + hut() + ")";
            case 10: return "sheet(" + hut() + ", " + hut() + ", " + what(2) + ")";
            case 11: case 12: return "way(" + hut() + ", " + hut() + ", " + what(2) + ")";
            case 13: case 14: return "post(" + hut() + ", " + hut() + ")";
            case 15: return "truth(" + hut() + ", " + hut() + ")";
            case 16: return "about(" + aPass() + ", " + what(4) + ")";
            case 17: return "told(" + hut() + ", " + what(4) + ")";
            case 18: return "count(" + what(6) + ")";
            case 19: case 20: case 21: case 22: return "go(" + (1 + random.nextInt(3)) + ")";
            case 23: return "go(" + (random.nextInt(64) - 1) + ")";
            case 24: return "foresee(" + (random.nextInt(64) - 1) + ", " + (random.nextInt(5) + 2) + ")";
            case 25: return "foresee(" + (1 + random.nextInt(20)) + ", " + (4 + random.nextInt(2)) + ")";
            case 26: case 27: return "settles()";
            case 28: return "advise()";
            case 29: return "mean()";
            default: return "digest()";
        }
    }

    private String pass() {
        return "pass(" + hut() + ", " + hut() + ", " + length() + ")";
    }

    private int area() {
        return odd() ? random.nextInt(8) - 2 : random.nextInt(areas + 1);
    }

    private int hut() {
        return odd() ? random.nextInt(14) - 2 : random.nextInt(Math.max(huts, 1));
    }

    private int aPass() {
        return odd() ? random.nextInt(24) - 2 : random.nextInt(Math.max(passes, 1));
    }

    private int length() {
        return odd() ? random.nextInt(104) - 2 : 1 + random.nextInt(lengths);
    }

    private int what(int greatest) {
        return odd() ? random.nextInt(10) - 2 : random.nextInt(greatest + 1);
    }

    private boolean odd() {
        return random.nextInt(30) == 0;
    }
}
