import java.util.ArrayList;
import java.util.List;

/** Calls written as text, such as "setOpen(0, false)", made on an object; the answer is a text too. */
final class Calls {
    private Calls() {
    }

    static String name(String call) {
        return call.substring(0, call.indexOf('('));
    }

    static int[] arguments(String call) {
        String inner = call.substring(call.indexOf('(') + 1, call.indexOf(')')).trim();
        List<Integer> values = new ArrayList<>();
        if (!inner.isEmpty()) {
            for (String text : inner.split(",")) {
                String value = text.trim();
                values.add(value.equals("true") ? 1 : value.equals("false") ? 0 : Integer.parseInt(value));
            }
        }
        return values.stream().mapToInt(Integer::intValue).toArray();
    }

    static String answer(PassNotes x, String call) {
        try {
            return String.valueOf(made(x, name(call), arguments(call)));
        } catch (RuntimeException e) {
            return "throws." + e.getClass().getSimpleName();
        }
    }

    private static Object made(PassNotes x, String name, int[] a) {
        return switch (name) {
            case "hut" -> x.hut(a[0]);
            case "pass" -> x.pass(a[0], a[1], a[2]);
            case "setLength" -> x.setLength(a[0], a[1]);
            case "setOpen" -> x.setOpen(a[0], a[1] == 1);
            case "burn" -> x.burn(a[0]);
            case "sheet" -> x.sheet(a[0], a[1], a[2]);
            case "way" -> x.way(a[0], a[1], a[2]);
            case "post" -> x.post(a[0], a[1]);
            case "truth" -> x.truth(a[0], a[1]);
            case "about" -> x.about(a[0], a[1]);
            case "told" -> x.told(a[0], a[1]);
            case "count" -> x.count(a[0]);
            case "go" -> x.go(a[0]);
            case "foresee" -> x.foresee(a[0], a[1]);
            case "settles" -> x.settles();
            case "advise" -> x.advise();
            case "mean" -> x.mean();
            case "digest" -> x.digest();
            default -> throw new AssertionError("no such call: " + name);
        };
    }
}
