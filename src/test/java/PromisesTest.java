import java.util.ArrayList;
import java.util.List;

/** For each promise of the document runs of calls with the answers that are due, found by hand. */
public final class PromisesTest {
    private static final String INDEX = "throws.IndexOutOfBoundsException";
    private static final String ARGUMENT = "throws.IllegalArgumentException";
    private static final String STATE = "throws.IllegalStateException";

    // Passes 0 to 2 are the line 0-1-2-3, each 1 long; passes 3 and 4 the long way 0-4-3, each 10 long.
    private static final String LINE_AND_LONG_WAY = """
        hut(0) 0; hut(0) 1; hut(0) 2; hut(0) 3; hut(0) 4
        pass(0, 1, 1) 0; pass(1, 2, 1) 1; pass(2, 3, 1) 2; pass(0, 4, 10) 3; pass(4, 3, 10) 4
        """;

    private static final String TWO_HUTS = "hut(0) 0; hut(0) 1; pass(0, 1, 7) 0;";

    private static final Check CHECK = new Check();

    public static void main(String[] args) {
        newObject();
        hut();
        pass();
        setLength();
        setOpen();
        burn();
        sheetNumbers();
        sheetAges();
        sheetCarrying();
        sheetAreas();
        way();
        wayTies();
        wayByOldSheets();
        post();
        truth();
        about();
        told();
        count();
        fullMountain();
        go();
        foresee();
        settles();
        advise();
        mean();
        digest();
        nothingChanges();
        CHECK.end();
    }

    private static void run(String name, String... lines) {
        CHECK.run(name, String.join("\n", lines));
    }

    private static void newObject() {
        run("1: a new object has no huts and is in the minute 0", """
            count(0) 0; count(1) 0; count(2) 0; count(3) 0; count(4) 0; count(5) 0; count(6) 0
            settles() 0; advise() -1; mean() 0.0; foresee(60, 4) 0; foresee(60, 5) 0
            go(3) 0; count(0) 3; hut(0) 0
            """);
        PassNotes one = new PassNotes();
        PassNotes other = new PassNotes();
        one.hut(0);
        one.go(5);
        List<String> wrong = new ArrayList<>();
        if (other.count(0) != 0 || other.count(1) != 0) {
            wrong.add("another object is changed as well");
        }
        CHECK.that("1: objects are apart", wrong);
    }

    private static void hut() {
        run("2: huts are numbered, areas are 0 to 3",
            "hut(0) 0; hut(1) 1; hut(2) 2; hut(3) 3",
            "hut(4) " + ARGUMENT, "hut(-1) " + ARGUMENT,
            "hut(2147483647) " + ARGUMENT, "hut(-2147483648) " + ARGUMENT,
            "count(1) 4; told(0, 0) 0; told(1, 0) 1; told(2, 0) 2; told(3, 0) 3; hut(0) 4");
        run("2: there are 10 at most, a wrong area comes first",
            "hut(0) 0; hut(0) 1; hut(0) 2; hut(0) 3; hut(0) 4; hut(0) 5; hut(0) 6; hut(0) 7; hut(0) 8; hut(3) 9",
            "hut(0) " + STATE, "hut(4) " + ARGUMENT, "hut(-1) " + ARGUMENT, "count(1) 10; told(9, 0) 3");
    }

    private static void pass() {
        run("3: passes are numbered, there can be several between two huts",
            "hut(0) 0; hut(1) 1; hut(2) 2",
            "pass(0, 1, 1) 0; pass(1, 0, 99) 1; pass(2, 0, 50) 2; count(2) 3; count(3) 3",
            "about(1, 0) 1; about(1, 1) 0; about(1, 2) 99; about(1, 3) 1");
        run("3: what is wrong with a pass, in its order",
            "pass(0, 1, 5) " + INDEX, "hut(0) 0", "pass(0, 1, 5) " + INDEX, "pass(1, 0, 5) " + INDEX, "hut(0) 1",
            "pass(-1, 0, 5) " + INDEX, "pass(0, -1, 5) " + INDEX, "pass(0, 2, 5) " + INDEX, "pass(2, 0, 5) " + INDEX,
            "pass(2, 2, 0) " + INDEX, "pass(0, 2147483647, 0) " + INDEX, "pass(-2147483648, 0, 100) " + INDEX,
            "pass(0, 0, 5) " + ARGUMENT, "pass(1, 1, 5) " + ARGUMENT, "pass(0, 1, 0) " + ARGUMENT,
            "pass(0, 1, 100) " + ARGUMENT, "pass(0, 1, -1) " + ARGUMENT, "pass(0, 1, 2147483647) " + ARGUMENT,
            "count(2) 0; pass(0, 1, 5) 0");
        StringBuilder twenty = new StringBuilder("hut(0) 0; hut(0) 1;");
        for (int pass = 0; pass < 20; pass++) {
            twenty.append("pass(0, 1, 9) ").append(pass).append(";");
        }
        run("3: there are 20 at most, the other faults come first",
            twenty.toString(), "pass(0, 1, 9) " + STATE, "pass(0, 0, 9) " + ARGUMENT, "pass(0, 1, 100) " + ARGUMENT,
            "pass(0, 2, 9) " + INDEX, "count(2) 20; setLength(19, 2) 9; go(1) 2; way(0, 1, 0) 2; sheet(1, 0, 2) 20");
    }

    private static void setLength() {
        run("4: answers the length before, which holds from now on",
            TWO_HUTS, "setLength(0, 1) 7; setLength(0, 99) 1; setLength(0, 99) 99; about(0, 2) 99; truth(0, 1) 99",
            "setOpen(0, false) true; setLength(0, 3) 99; setOpen(0, true) false; truth(1, 0) 3");
        run("4: what is wrong, in its order",
            "setLength(0, 5) " + INDEX, TWO_HUTS, "setLength(1, 5) " + INDEX, "setLength(-1, 5) " + INDEX,
            "setLength(1, 0) " + INDEX, "setLength(-1, 100) " + INDEX, "setLength(0, 0) " + ARGUMENT,
            "setLength(0, 100) " + ARGUMENT, "setLength(0, -7) " + ARGUMENT, "about(0, 2) 7");
    }

    private static void setOpen() {
        run("5: answers whether it was open, and it is from now on",
            TWO_HUTS, "about(0, 3) 1; setOpen(0, true) true; setOpen(0, false) true; about(0, 3) 0; count(3) 0",
            "setOpen(0, false) false; truth(0, 1) -1; setOpen(0, true) false; count(3) 1; truth(0, 1) 7");
        run("5: no such pass",
            "setOpen(0, true) " + INDEX, TWO_HUTS, "setOpen(1, false) " + INDEX, "setOpen(-1, false) " + INDEX,
            "setOpen(2147483647, false) " + INDEX, "count(3) 1");
    }

    private static void burn() {
        run("6: burns all sheets of one hut, how many it wrote stays",
            TWO_HUTS, "hut(0) 2; pass(1, 2, 1) 1; burn(0) 0; go(2) 3; told(0, 1) 3; burn(0) 3; told(0, 1) 0; burn(0) 0",
            "told(0, 2) 1; told(1, 1) 3; sheet(0, 0, 0) -1; sheet(0, 1, 0) -1; sheet(1, 0, 0) 1; way(0, 1, 0) -1",
            "way(0, 0, 0) 0; count(4) 6; go(1) 1; sheet(0, 0, 0) 2; sheet(0, 0, 1) 1; sheet(0, 1, 0) 1; told(0, 2) 2",
            "sheet(0, 2, 0) 1; sheet(1, 0, 0) 2; sheet(2, 0, 0) 1; go(1) 0; sheet(2, 0, 0) 2");
        run("6: no such hut",
            "burn(0) " + INDEX, TWO_HUTS, "go(1) 2", "burn(2) " + INDEX, "burn(-1) " + INDEX, "count(4) 4");
    }

    private static void sheetNumbers() {
        run("7: number, age and passes of a sheet, -1 without one",
            TWO_HUTS, "pass(1, 0, 9) 1; hut(0) 2; sheet(0, 0, 0) -1; sheet(0, 0, 1) -1; sheet(0, 0, 2) -1; go(1) 3",
            "sheet(0, 0, 0) 1; sheet(0, 0, 1) 1; sheet(0, 0, 2) 2; sheet(0, 1, 0) 1; sheet(0, 2, 0) -1",
            "sheet(2, 2, 0) 1; sheet(2, 2, 2) 0; setOpen(1, false) true; sheet(0, 0, 2) 2; go(1) 2",
            "sheet(0, 0, 0) 2; sheet(0, 0, 2) 1; sheet(0, 1, 0) 2; sheet(0, 1, 1) 1; sheet(2, 2, 0) 1; sheet(2, 2, 1) 2");
        run("7: no such hut, or no such what",
            "sheet(0, 0, 0) " + INDEX, TWO_HUTS, "sheet(0, 2, 0) " + INDEX, "sheet(2, 0, 0) " + INDEX,
            "sheet(-1, 0, 0) " + INDEX, "sheet(0, -1, 0) " + INDEX, "sheet(0, 0, 3) " + INDEX,
            "sheet(0, 0, -1) " + INDEX);
        run("7: a sheet is written anew for another length, another pass, an opened one, not for one of others",
            TWO_HUTS, "hut(0) 2; go(1) 3; setLength(0, 8) 7; go(1) 2; sheet(0, 0, 0) 2; setLength(0, 8) 8; go(1) 0",
            "pass(1, 2, 1) 1; go(1) 2; sheet(0, 0, 0) 2; sheet(1, 1, 0) 3; sheet(1, 1, 2) 2; sheet(2, 2, 0) 2",
            "setOpen(0, false) true; go(1) 2; setLength(0, 20) 8; go(1) 0; setOpen(0, true) false; go(1) 2",
            "setOpen(0, false) true; setOpen(0, true) false; go(1) 0; sheet(0, 0, 0) 4");
    }

    private static void sheetAges() {
        run("7: the own sheet is written anew when it is 20 minutes old",
            "hut(0) 0; go(1) 1; sheet(0, 0, 1) 1; go(18) 0; sheet(0, 0, 1) 19; go(1) 0; sheet(0, 0, 1) 20",
            "sheet(0, 0, 0) 1; go(1) 1; sheet(0, 0, 0) 2; sheet(0, 0, 1) 1; go(19) 0; go(1) 1; sheet(0, 0, 0) 3");
        run("7: a sheet older than 30 minutes is thrown away",
            TWO_HUTS, "go(1) 2; setOpen(0, false) true; go(29) 4; sheet(0, 1, 0) 1; sheet(0, 1, 1) 30; count(4) 4",
            "go(1) 0; sheet(0, 1, 1) -1; sheet(1, 0, 0) -1; count(4) 2; sheet(0, 0, 0) 3; sheet(0, 0, 1) 10");
        run("7: a carried sheet goes on getting old",
            TWO_HUTS, "hut(0) 2; pass(1, 2, 3) 1; go(10) 3; sheet(0, 2, 1) 10; sheet(2, 0, 1) 10; go(11) 3",
            "sheet(0, 2, 0) 1; sheet(0, 2, 1) 21; sheet(0, 1, 0) 2; sheet(0, 1, 1) 1; go(1) 0; sheet(0, 2, 0) 2",
            "sheet(0, 2, 1) 2");
    }

    private static void sheetCarrying() {
        run("7: each minute over one pass, passes numbered along the line",
            "hut(0) 0; hut(0) 1; hut(0) 2; hut(0) 3; pass(0, 1, 5) 0; pass(1, 2, 5) 1; pass(2, 3, 5) 2",
            "go(1) 4; sheet(0, 1, 0) 1; sheet(0, 2, 0) -1; sheet(3, 2, 0) 1; sheet(3, 1, 0) -1; go(1) 0",
            "sheet(0, 2, 0) 1; sheet(0, 3, 0) -1; sheet(3, 1, 0) 1; sheet(3, 0, 0) -1; go(1) 0; sheet(0, 3, 0) 1",
            "sheet(3, 0, 0) 1; sheet(3, 0, 1) 3; count(4) 16");
        run("7: each minute over one pass, passes numbered against the line",
            "hut(0) 0; hut(0) 1; hut(0) 2; hut(0) 3; pass(3, 2, 5) 0; pass(2, 1, 5) 1; pass(1, 0, 5) 2",
            "go(1) 4; sheet(0, 1, 0) 1; sheet(0, 2, 0) -1; sheet(3, 2, 0) 1; sheet(3, 1, 0) -1; go(1) 0",
            "sheet(0, 2, 0) 1; sheet(0, 3, 0) -1; sheet(3, 1, 0) 1; sheet(3, 0, 0) -1");
        run("7: over no shut pass",
            TWO_HUTS, "setOpen(0, false) true; go(1) 2; sheet(0, 1, 0) -1; sheet(1, 0, 0) -1; sheet(0, 0, 2) 0",
            "setOpen(0, true) false; go(1) 2; sheet(0, 1, 0) 2; sheet(1, 0, 0) 2");
        run("7: an older sheet does not come in the place of a newer one",
            LINE_AND_LONG_WAY, "go(4) 5; setLength(0, 2) 1; go(1) 2; sheet(4, 0, 0) 2; sheet(3, 0, 0) 1; go(1) 0",
            "sheet(4, 0, 0) 2; sheet(3, 0, 0) 2; sheet(2, 0, 0) 2; sheet(4, 1, 0) 2; sheet(3, 1, 0) 2");
    }

    private static void sheetAreas() {
        run("7: a hut takes in sheets of its own area and of the area 0; in the area 0 all",
            "hut(0) 0; hut(1) 1; hut(2) 2; hut(1) 3; pass(0, 1, 1) 0; pass(0, 2, 1) 1; pass(0, 3, 1) 2; pass(1, 2, 1) 3",
            "go(5) 4; told(0, 1) 4; sheet(1, 0, 0) 1; sheet(1, 3, 0) 1; sheet(1, 2, 0) -1; sheet(1, 1, 0) 1",
            "sheet(2, 0, 0) 1; sheet(2, 1, 0) -1; sheet(2, 3, 0) -1; sheet(3, 1, 0) 1; sheet(3, 2, 0) -1; count(4) 12");
        run("7: what a hut does not take in, it does not carry on",
            "hut(0) 0; hut(1) 1; hut(2) 2; hut(1) 3; pass(0, 1, 1) 0; pass(1, 2, 1) 1; pass(2, 3, 1) 2; go(10) 4",
            "sheet(2, 0, 0) 1; sheet(3, 0, 0) 1; sheet(0, 1, 0) 1; sheet(0, 2, 0) -1; sheet(0, 3, 0) -1",
            "sheet(3, 1, 0) -1; sheet(1, 3, 0) -1");
    }

    private static void way() {
        run("8: length, passes and first step of a way; to itself 0, 0 and itself",
            LINE_AND_LONG_WAY, "way(3, 3, 0) 0; way(3, 3, 1) 0; way(3, 3, 2) 3; way(0, 1, 0) -1; go(1) 5",
            "way(0, 1, 0) 1; way(0, 1, 1) 1; way(0, 1, 2) 1; way(0, 2, 0) -1; way(0, 2, 1) -1; way(0, 2, 2) -1",
            "way(0, 3, 0) -1; way(0, 4, 0) 10; go(1) 0; way(0, 2, 0) 2; way(0, 3, 0) 3; way(0, 3, 1) 3; way(0, 3, 2) 1",
            "go(1) 0; way(3, 0, 0) 3; way(3, 0, 1) 3; way(3, 0, 2) 2; way(4, 2, 0) 11; way(4, 2, 1) 2; way(4, 2, 2) 3",
            "way(0, 0, 0) 0; way(4, 4, 2) 4");
        run("8: no such hut, or no such what",
            "way(0, 0, 0) " + INDEX, TWO_HUTS, "way(0, 2, 0) " + INDEX, "way(2, 0, 0) " + INDEX,
            "way(-1, 0, 0) " + INDEX, "way(0, -1, 0) " + INDEX, "way(0, 0, 3) " + INDEX, "way(0, 0, -1) " + INDEX,
            "way(2, 2, 0) " + INDEX);
        run("8: both huts have to tell the pass, the own one as well",
            TWO_HUTS, "hut(0) 2; pass(1, 2, 3) 1; go(2) 3; way(0, 2, 0) 10; setOpen(1, false) true; way(0, 2, 0) 10",
            "go(1) 2; way(0, 2, 0) -1; way(1, 2, 0) -1; sheet(0, 2, 0) 1; sheet(0, 2, 2) 1; burn(0) 3; way(0, 1, 0) -1",
            "way(1, 0, 0) 7");
        run("8: of several passes between two huts the shortest",
            TWO_HUTS, "pass(1, 0, 4) 1; pass(0, 1, 6) 2; go(1) 2; way(0, 1, 0) 4; way(1, 0, 0) 4; way(0, 1, 1) 1",
            "setOpen(1, false) true; go(1) 2; way(0, 1, 0) 6");
        run("8: the longest way there can be",
            "hut(0) 0; hut(0) 1; hut(0) 2; hut(0) 3; hut(0) 4; hut(0) 5; hut(0) 6; hut(0) 7; hut(0) 8; hut(0) 9",
            "pass(9, 8, 99) 0; pass(8, 7, 99) 1; pass(7, 6, 99) 2; pass(6, 5, 99) 3; pass(5, 4, 99) 4",
            "pass(4, 3, 99) 5; pass(3, 2, 99) 6; pass(2, 1, 99) 7; pass(1, 0, 99) 8; settles() 9; go(8) 10",
            "way(0, 9, 0) -1; way(0, 8, 0) 792; settles() 1; go(1) 0; way(0, 9, 0) 891; way(0, 9, 1) 9; way(0, 9, 2) 1",
            "way(9, 0, 0) 891; way(9, 0, 1) 9; way(9, 0, 2) 8; post(0, 9) 9; post(9, 0) 9; truth(9, 0) 891");
    }

    private static void wayTies() {
        run("8: of ways as short the one with the fewest passes, though its first step has a greater number",
            "hut(0) 0; hut(0) 1; hut(0) 2; hut(0) 3; hut(0) 4",
            "pass(0, 1, 1) 0; pass(1, 2, 1) 1; pass(2, 4, 2) 2; pass(0, 3, 1) 3; pass(3, 4, 3) 4; go(4) 5",
            "way(0, 4, 0) 4; way(0, 4, 1) 2; way(0, 4, 2) 3; way(4, 0, 1) 2; way(4, 0, 2) 3");
        run("8: of several still the one with the smallest numbers at the first place where they differ",
            "hut(0) 0; hut(0) 1; hut(0) 2; hut(0) 3; hut(0) 4; hut(0) 5",
            "pass(0, 2, 1) 0; pass(2, 3, 1) 1; pass(3, 5, 1) 2; pass(0, 1, 1) 3; pass(1, 4, 1) 4; pass(4, 5, 1) 5; go(5) 6",
            "way(0, 5, 0) 3; way(0, 5, 1) 3; way(0, 5, 2) 1; way(5, 0, 2) 3; post(0, 5) 3; post(5, 0) 3",
            "setLength(3, 2) 1; go(5) 2; way(0, 5, 2) 2");
    }

    private static void wayByOldSheets() {
        // Hut 0 has the new sheet of 3 and the old one of 2; from 2 to 3 the sheet of 2 counts, from 3 to 2 that of 3.
        run("8: the length is that of the sheet of the hut from which one goes",
            "hut(0) 0; hut(0) 1; hut(0) 2; hut(0) 3; pass(0, 1, 20) 0; pass(1, 2, 1) 1; pass(2, 3, 5) 2; pass(3, 0, 30) 3",
            "go(4) 4; way(0, 3, 0) 26; setLength(2, 9) 5; way(0, 3, 0) 26; truth(0, 3) 30; go(1) 2",
            "sheet(0, 3, 0) 2; sheet(0, 2, 0) 1; way(0, 3, 0) 26; way(0, 3, 1) 3; way(2, 3, 0) 9; way(1, 3, 0) 10",
            "go(1) 0; way(0, 3, 0) 30; way(0, 3, 1) 1; way(0, 3, 2) 3");
        run("8: the same where the pass was told from its other hut",
            "hut(0) 0; hut(0) 1; hut(0) 2; hut(0) 3; pass(1, 0, 20) 0; pass(2, 1, 1) 1; pass(3, 2, 5) 2; pass(0, 3, 30) 3",
            "go(4) 4; way(0, 3, 0) 26; setLength(2, 9) 5; go(1) 2; sheet(0, 3, 0) 2; sheet(0, 2, 0) 1; way(0, 3, 0) 26",
            "way(2, 3, 0) 9; way(1, 3, 0) 10; go(1) 0; way(0, 3, 0) 30");
        run("8: by the new sheet of the one and the old sheet of the other",
            "hut(0) 0; hut(0) 1; hut(0) 2; hut(0) 3; pass(0, 1, 90) 0; pass(1, 2, 90) 1; pass(3, 2, 5) 2; pass(3, 0, 1) 3",
            "go(4) 4; setLength(2, 9) 5; go(1) 2; way(0, 2, 0) 10; way(1, 2, 0) 90; way(1, 3, 0) 91; way(1, 3, 2) 0",
            "setLength(0, 99) 90; go(1) 2; way(1, 3, 0) 99; way(1, 3, 2) 2");
    }

    private static void post() {
        run("9: over how many passes a letter comes, lost without a way, to itself over none",
            TWO_HUTS, "hut(0) 2; pass(1, 2, 1) 1; post(2, 2) 0; post(0, 1) -1; go(1) 3; post(0, 1) 1; post(0, 2) -1",
            "go(1) 0; post(0, 2) 2; post(2, 0) 2; burn(1) 3; post(0, 2) -1; post(0, 1) 1; post(1, 0) -1; post(1, 1) 0");
        run("9: lost where the step is over no open pass; another pass to the same hut will do",
            TWO_HUTS, "pass(0, 1, 9) 1; go(1) 2; setOpen(0, false) true; way(0, 1, 0) 7; post(0, 1) 1; post(1, 0) 1",
            "setOpen(1, false) true; post(0, 1) -1; post(1, 0) -1; pass(1, 0, 50) 2; post(0, 1) 1; post(1, 0) 1");
        run("9: lost where two huts send it to one another",
            LINE_AND_LONG_WAY, "go(4) 5; post(0, 3) 3; setOpen(2, false) true; post(0, 3) -1; go(1) 2",
            "way(0, 3, 2) 1; way(1, 3, 2) 0; way(1, 3, 0) 21; post(0, 3) -1; post(1, 3) -1; post(2, 3) -1; post(4, 3) 1",
            "post(3, 0) 2; post(3, 2) 4; go(1) 0; post(0, 3) 2; post(1, 3) 3; post(2, 3) 4");
        run("9: no such hut",
            "post(0, 0) " + INDEX, TWO_HUTS, "post(0, 2) " + INDEX, "post(2, 0) " + INDEX, "post(-1, 0) " + INDEX,
            "post(0, -1) " + INDEX, "post(2, 2) " + INDEX);
    }

    private static void truth() {
        run("10: the shortest way over open passes by their lengths now",
            LINE_AND_LONG_WAY, "truth(0, 3) 3; truth(3, 0) 3; truth(2, 2) 0; setOpen(2, false) true; truth(0, 3) 20",
            "truth(2, 3) 22; setLength(4, 1) 10; truth(0, 3) 11; setOpen(3, false) true; truth(0, 3) -1; truth(3, 1) -1",
            "truth(3, 4) 1; truth(3, 3) 0; hut(1) 5; truth(5, 0) -1; pass(5, 0, 2) 5; truth(5, 2) 4; truth(2, 5) 4");
        run("10: no such hut",
            "truth(0, 0) " + INDEX, TWO_HUTS, "truth(0, 2) " + INDEX, "truth(2, 0) " + INDEX, "truth(-1, 0) " + INDEX,
            "truth(0, -1) " + INDEX);
    }

    private static void about() {
        run("11: its huts as they were told, its length, whether it is open, how many huts take it for open",
            LINE_AND_LONG_WAY, "about(4, 0) 4; about(4, 1) 3; about(4, 2) 10; about(4, 3) 1; about(4, 4) 0; go(1) 5",
            "about(0, 4) 2; about(2, 4) 2; go(1) 0; about(2, 4) 5; go(1) 0; about(2, 4) 5; setOpen(2, false) true",
            "about(2, 3) 0; about(2, 4) 5; go(1) 2; about(2, 4) 1; go(1) 0; about(2, 4) 0; setLength(2, 50) 1",
            "about(2, 2) 50");
        run("11: a hut takes a pass for open that both its huts tell",
            TWO_HUTS, "go(1) 2; about(0, 4) 2; burn(0) 2; about(0, 4) 1; burn(1) 2; about(0, 4) 0");
        run("11: no such pass, or no such what",
            "about(0, 0) " + INDEX, TWO_HUTS, "about(1, 0) " + INDEX, "about(-1, 0) " + INDEX, "about(0, 5) " + INDEX,
            "about(0, -1) " + INDEX, "about(1, 5) " + INDEX);
    }

    private static void told() {
        run("12: area, sheets, sheets written in all, huts known, huts reached",
            "hut(3) 0; hut(0) 1; hut(3) 2; pass(0, 1, 1) 0; pass(1, 2, 1) 1; told(0, 0) 3; told(0, 1) 0; told(0, 2) 0",
            "told(0, 3) 1; told(0, 4) 1; go(1) 3; told(0, 1) 2; told(0, 3) 2; told(0, 4) 2; told(1, 3) 3; go(1) 0",
            "told(0, 1) 3; told(0, 2) 1; told(0, 3) 3; told(0, 4) 3; setOpen(1, false) true; told(0, 3) 3; told(0, 4) 2",
            "go(41) 8; told(0, 1) 2; told(0, 2) 3; told(1, 2) 4; told(0, 3) 2; burn(0) 2; told(0, 1) 0; told(0, 2) 3",
            "told(0, 3) 1; told(0, 4) 1");
        run("12: no such hut, or no such what",
            "told(0, 0) " + INDEX, "hut(0) 0", "told(1, 0) " + INDEX, "told(-1, 0) " + INDEX, "told(0, 5) " + INDEX,
            "told(0, -1) " + INDEX, "told(1, 5) " + INDEX);
    }

    private static void count() {
        run("13: minute, huts, passes, open ones, sheets, pairs that letters join, pairs in truth",
            LINE_AND_LONG_WAY, "hut(0) 5; count(0) 0; count(1) 6; count(2) 5; count(3) 5; count(4) 0; count(5) 0",
            "count(6) 20; go(1) 6; count(0) 1; count(4) 16; count(5) 10; go(3) 0; count(0) 4; count(4) 26; count(5) 20",
            "setOpen(2, false) true; count(3) 4; count(6) 20; count(5) 12; setOpen(3, false) true; count(6) 8",
            "pass(5, 0, 1) 5; count(2) 6; count(6) 14");
        run("13: pairs are counted in each direction",
            TWO_HUTS, "go(1) 2; count(5) 2; burn(0) 2; count(5) 1; count(6) 2");
        run("13: no such what", "count(7) " + INDEX, "count(-1) " + INDEX, "count(2147483647) " + INDEX);
    }

    private static void fullMountain() {
        StringBuilder full = new StringBuilder();
        for (int hut = 0; hut < 10; hut++) {
            full.append("hut(0) ").append(hut).append(";");
        }
        // A ring of ten, and from each hut another pass over two huts on.
        for (int pass = 0; pass < 20; pass++) {
            int to = (pass + (pass < 10 ? 1 : 3)) % 10;
            full.append("pass(").append(pass % 10).append(", ").append(to).append(", 9) ").append(pass).append(";");
        }
        run("13: ten huts and twenty passes",
            full.toString(), "count(6) 90; advise() 0; settles() 3; foresee(2, 4) 90; foresee(3, 4) 100; go(3) 10",
            "count(4) 100; count(5) 90; told(9, 3) 10; told(9, 4) 10; about(19, 4) 10; post(0, 5) 3; post(9, 9) 0",
            "truth(0, 5) 27; way(9, 4, 1) 3; way(9, 4, 2) 0; setLength(19, 1) 9; go(60) 30; truth(9, 2) 1; mean() 6.4");
        run("13: a hut apart between two that are joined",
            "hut(0) 0; hut(0) 1; hut(0) 2; pass(0, 2, 4) 0; count(6) 2; pass(2, 0, 4) 1; count(6) 2; pass(1, 2, 4) 2; count(6) 6");
    }

    private static void go() {
        run("14: answers how many sheets are written",
            TWO_HUTS, "go(1) 2; go(19) 0; go(1) 2; count(0) 21; go(60) 6; count(0) 81; setLength(0, 3) 7; go(60) 6",
            "count(0) 141; hut(1) 2; go(1) 3; sheet(0, 2, 0) -1");
        run("14: minutes are 1 to 60",
            "hut(0) 0", "go(0) " + ARGUMENT, "go(61) " + ARGUMENT, "go(-1) " + ARGUMENT, "go(2147483647) " + ARGUMENT,
            "go(-2147483648) " + ARGUMENT, "count(0) 0; sheet(0, 0, 0) -1; go(60) 3; count(0) 60; go(1) 1; count(0) 61");
    }

    private static void foresee() {
        run("15: sheets and pairs behind so many minutes",
            LINE_AND_LONG_WAY, "foresee(1, 4) 15; foresee(1, 5) 10; foresee(2, 4) 25; foresee(2, 5) 20",
            "foresee(60, 4) 25; count(0) 0; count(4) 0; sheet(0, 0, 0) -1; told(0, 2) 0; go(1) 5; count(4) 15",
            "setOpen(3, false) true; foresee(30, 5) 20; setOpen(0, false) true; foresee(29, 4) 23; foresee(30, 4) 17",
            "go(29) 8; count(4) 23; go(1) 0; count(4) 17; foresee(1, 4) 17");
        run("15: sheets that would be written are newer than those that are there",
            LINE_AND_LONG_WAY, "go(25) 10; setOpen(2, false) true; foresee(1, 5) 17; foresee(2, 5) 20; foresee(1, 5) 17");
        run("15: what is wrong, in its order",
            TWO_HUTS, "foresee(0, 4) " + ARGUMENT, "foresee(61, 5) " + ARGUMENT, "foresee(-1, 4) " + ARGUMENT,
            "foresee(0, 3) " + ARGUMENT, "foresee(61, 6) " + ARGUMENT, "foresee(1, 3) " + INDEX,
            "foresee(60, 6) " + INDEX, "foresee(1, 0) " + INDEX, "foresee(1, -1) " + INDEX);
    }

    private static void settles() {
        run("16: behind how many minutes letters come wherever there is a way in truth",
            "settles() 0", LINE_AND_LONG_WAY, "settles() 2; go(1) 5; settles() 1; go(1) 0; settles() 0; count(0) 2",
            "setOpen(2, false) true; settles() 2; go(1) 2; settles() 1; go(1) 0; settles() 0; hut(0) 5; settles() 0",
            "pass(5, 2, 3) 5; settles() 5; count(0) 4; setOpen(5, false) true; settles() 0");
        run("16: from now on, whatever was foreseen before",
            LINE_AND_LONG_WAY, "foresee(60, 5) 20; settles() 2; settles() 2; go(30) 10; setOpen(0, false) true; settles() 2",
            "foresee(9, 4) 25; settles() 2; burn(4) 5; settles() 2; settles() 2");
        run("16: -1 if areas keep them apart",
            "hut(1) 0; hut(2) 1; settles() 0; pass(0, 1, 1) 0; settles() -1; go(60) 6; settles() -1",
            "setOpen(0, false) true; settles() 0");
        run("16: pairs in one direction count as well",
            TWO_HUTS, "go(1) 2; settles() 0; burn(1) 2; post(0, 1) 1; settles() 1");
    }

    private static void advise() {
        run("17: the open pass without which the fewest pairs have a way",
            "advise() -1", LINE_AND_LONG_WAY, "advise() 0; hut(0) 5; hut(0) 6; pass(5, 6, 1) 5; advise() 5",
            "pass(4, 5, 1) 6; advise() 6; setOpen(3, false) true; advise() 2; setOpen(4, false) true; advise() 1",
            "count(3) 5; about(6, 3) 1");
        run("17: of several the one with the smallest number, shut ones left out",
            "hut(0) 0; hut(0) 1; hut(0) 2; pass(0, 1, 1) 0; pass(1, 0, 1) 1; pass(1, 2, 5) 2; pass(0, 2, 5) 3; advise() 0",
            "setOpen(0, false) true; advise() 1; setOpen(1, false) true; advise() 2; setOpen(2, false) true; advise() 3",
            "setOpen(3, false) true; advise() -1; setOpen(0, true) false; setOpen(1, true) false; advise() 0");
        run("17: one of several between two huts is not missed",
            "hut(0) 0; hut(1) 1; hut(2) 2; pass(0, 1, 1) 0; pass(1, 0, 1) 1; pass(1, 2, 9) 2; advise() 2; go(9) 3; advise() 2");
    }

    private static void mean() {
        run("18: the mean age of all sheets, 0 without any",
            "mean() 0.0; hut(0) 0; mean() 0.0; go(5) 1; mean() 5.0; hut(0) 1; go(2) 1; mean() 4.5; burn(0) 1; mean() 2.0",
            "burn(1) 1; mean() 0.0");
        run("18: a mean that is no whole number",
            "hut(0) 0; hut(0) 1; go(1) 2; hut(0) 2; go(1) 1; mean() 1.6666666666666667; pass(0, 2, 1) 0; go(2) 2",
            "mean() 2.4");
    }

    private static void digest() {
        run("19: of a new object, 1627 * 31^7", "digest() 44763023158597");
        // 0 1 0 0 0 0 0, then 2 0 0 1 1, then -1 -1 -1 0 0 0
        run("19: of one hut in the area 2", "hut(2) 0; digest() " + folded(
            0, 1, 0, 0, 0, 0, 0, 2, 0, 0, 1, 1, -1, -1, -1, 0, 0, 0));
        run("19: of two huts and a pass", "hut(2) 0; hut(0) 1; pass(1, 0, 4) 0; go(3) 2; setOpen(0, false) true",
            "digest() " + folded(3, 2, 1, 0, 4, 0, 0, 2, 2, 1, 2, 1, 0, 2, 1, 2, 1, 1, 0, 4, 0, 2,
                1, 3, 1, 0, 0, 0, 1, 3, 1, 4, 1, 1, 1, 3, 1, 4, 1, 0, 1, 3, 1, 0, 0, 1));
        PassNotes x = grown();
        List<String> wrong = new ArrayList<>();
        if (x.digest() != foldedFace(x)) {
            wrong.add("answered " + x.digest() + ", due is " + foldedFace(x));
        }
        CHECK.that("19: is made of what the other calls answer", wrong);
    }

    private static long folded(int... numbers) {
        long d = 1627;
        for (int x : numbers) {
            d = d * 31 + x;
        }
        return d;
    }

    private static PassNotes grown() {
        PassNotes x = new PassNotes();
        for (int hut = 0; hut < 10; hut++) {
            x.hut(hut % 4);
        }
        for (int pass = 0; pass < 20; pass++) {
            x.pass(pass % 10, (pass % 10 + 1 + pass / 10 * 3) % 10, pass * 7 % 99 + 1);
        }
        x.go(7);
        x.setOpen(3, false);
        x.setLength(4, 77);
        x.burn(8);
        x.go(15);
        x.setOpen(5, false);
        return x;
    }

    private static long foldedFace(PassNotes x) {
        List<Integer> all = new ArrayList<>();
        for (int what = 0; what <= 6; what++) {
            all.add(x.count(what));
        }
        for (int hut = 0; hut < 10; hut++) {
            for (int what = 0; what <= 4; what++) {
                all.add(x.told(hut, what));
            }
        }
        for (int pass = 0; pass < 20; pass++) {
            for (int what = 0; what <= 4; what++) {
                all.add(x.about(pass, what));
            }
        }
        for (int hut = 0; hut < 10; hut++) {
            for (int other = 0; other < 10; other++) {
                for (int what = 0; what <= 2; what++) {
                    all.add(x.sheet(hut, other, what));
                }
                for (int what = 0; what <= 2; what++) {
                    all.add(x.way(hut, other, what));
                }
            }
        }
        return folded(all.stream().mapToInt(Integer::intValue).toArray());
    }

    private static void nothingChanges() {
        PassNotes x = grown();
        long before = x.digest();
        String[] calls = {
            "hut(0)", "hut(4)", "pass(0, 1, 5)", "pass(0, 10, 5)", "pass(0, 0, 5)", "setLength(20, 5)", "setLength(0, 100)",
            "setOpen(20, false)", "burn(10)", "sheet(0, 0, 3)", "way(0, 0, 3)", "post(0, 10)", "truth(0, 10)",
            "about(0, 5)", "told(0, 5)", "count(7)", "go(0)", "go(61)", "foresee(0, 4)", "foresee(1, 6)",
            "foresee(1, 4)", "foresee(60, 5)", "settles()", "advise()", "mean()", "digest()", "post(0, 5)", "truth(0, 5)"};
        List<String> wrong = new ArrayList<>();
        for (String call : calls) {
            String answer = Calls.answer(x, call);
            if (x.digest() != before) {
                wrong.add(call + " answered " + answer + " and changed the digest");
                before = x.digest();
            }
        }
        CHECK.that("what throws, tells or foresees changes nothing", wrong);
    }
}
