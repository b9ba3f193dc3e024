import java.math.BigInteger;

/**
 * Each sentence of the document that names a boundary case, in the document's order, has a run of its own here; the
 * name of the run is the sentence. The answers are found by hand.
 */
public final class BoundariesTest {
    private static final String INDEX = "throws.IndexOutOfBoundsException";
    private static final String ARGUMENT = "throws.IllegalArgumentException";
    private static final String STATE = "throws.IllegalStateException";

    private static final String LEAST = "-2147483648";
    private static final String GREATEST = "2147483647";

    private static final String TWO_HUTS = "hut(0) 0; hut(0) 1; pass(0, 1, 7) 0;";
    private static final String LINE_OF_THREE = "hut(0) 0; hut(0) 1; hut(0) 2; pass(0, 1, 5) 0; pass(1, 2, 9) 1;";

    private static final Check CHECK = new Check();

    public static void main(String[] args) {
        use();
        sheets();
        areas();
        writing();
        writingOtherwise();
        carrying();
        keepingTheNewer();
        gettingOld();
        passesTakenForOpen();
        lengthsOfWays();
        waysAsShort();
        letters();
        newObject();
        hut();
        pass();
        setLength();
        setOpen();
        burn();
        sheet();
        way();
        post();
        truth();
        about();
        told();
        count();
        go();
        foresee();
        settles();
        advise();
        mean();
        digest();
        CHECK.end();
    }

    private static void says(String sentence, String... lines) {
        CHECK.run(sentence, String.join("\n", lines));
    }

    /** The calls, each with the exception; LEAST and GREATEST stand for the least and the greatest int. */
    private static String refused(String exception, String calls) {
        StringBuilder lines = new StringBuilder();
        for (String call : calls.split("; ")) {
            lines.append(call).append(' ').append(exception).append("\n");
        }
        return lines.toString().replace("LEAST", LEAST).replace("GREATEST", GREATEST);
    }

    private static String repeated(int times, String line) {
        return (line + "\n").repeat(times);
    }

    private static String huts(int number) {
        StringBuilder lines = new StringBuilder();
        for (int hut = 0; hut < number; hut++) {
            lines.append("hut(0) ").append(hut).append("\n");
        }
        return lines.toString();
    }

    /** Passes from each hut to the next, all of one length. */
    private static String line(int huts, int length) {
        StringBuilder lines = new StringBuilder();
        for (int hut = 0; hut + 1 < huts; hut++) {
            lines.append("pass(" + hut + ", " + (hut + 1) + ", " + length + ") " + hut + "\n");
        }
        return lines.toString();
    }

    private static String passesBetweenTwo(int number) {
        StringBuilder lines = new StringBuilder();
        for (int pass = 0; pass < number; pass++) {
            lines.append("pass(0, 1, 9) ").append(pass).append("\n");
        }
        return lines.toString();
    }

    // ---- What it is, and the Terms

    private static void use() {
        // What only tells is asked with a digest before and after it: these are 512 calls.
        says("An object is used for at most 512 calls",
            TWO_HUTS, repeated(500, "go(60) 6"), "count(0) 30000; told(1, 2) 1500; sheet(0, 1, 0) 1500");
        says("Time is told in minutes, from 0", "count(0) 0; go(1) 0; count(0) 1; go(60) 0; count(0) 61");
    }

    private static void sheets() {
        says("It has a number (1, 2 and so on, for the sheets that this hut wrote)",
            TWO_HUTS, "hut(0) 2; go(1) 3; sheet(0, 0, 0) 1; sheet(2, 2, 0) 1; setLength(0, 6) 7; go(1) 2",
            "sheet(0, 0, 0) 2; sheet(1, 1, 0) 2; sheet(2, 2, 0) 1; setLength(0, 7) 6; go(1) 2; sheet(0, 0, 0) 3",
            "sheet(0, 1, 0) 3; sheet(2, 2, 0) 1; told(0, 2) 3; told(2, 2) 1");
        says("It tells its passes that were open as it was written: not those of others, not shut ones",
            LINE_OF_THREE, "pass(0, 1, 6) 2; setOpen(2, false) true; go(1) 3; sheet(0, 0, 2) 1; sheet(1, 1, 2) 2",
            "sheet(2, 2, 2) 1");
        says("It tells its passes that were open as it was written: whatever becomes of them",
            TWO_HUTS, "pass(0, 1, 6) 1; setOpen(1, false) true; go(1) 2; setOpen(0, false) true; sheet(0, 0, 2) 1",
            "setOpen(1, true) false; setLength(1, 20) 6; sheet(0, 0, 2) 1; way(0, 1, 0) 7; go(1) 2; sheet(0, 0, 2) 1",
            "way(0, 1, 0) 20");
        says("It tells its passes: none of a hut without passes, or with shut ones alone",
            "hut(0) 0; go(1) 1; sheet(0, 0, 2) 0; hut(0) 1; pass(0, 1, 1) 0; setOpen(0, false) true; go(1) 1",
            "sheet(1, 1, 2) 0; sheet(0, 0, 0) 1");
        says("Each hut has one sheet of a hut at most, its own ones as well",
            TWO_HUTS, "go(1) 2; count(4) 4; told(0, 1) 2; setLength(0, 9) 7; go(1) 2; count(4) 4; told(0, 1) 2",
            "go(60) 6; count(4) 4; told(1, 1) 2; burn(1) 2");
        says("None at first",
            TWO_HUTS, "sheet(0, 0, 0) -1; sheet(0, 1, 0) -1; told(0, 1) 0; told(1, 1) 0; told(0, 2) 0; count(4) 0",
            "burn(0) 0; go(1) 2; hut(0) 2; told(2, 1) 0; sheet(2, 0, 0) -1; sheet(2, 2, 0) -1; count(4) 4");
    }

    private static void areas() {
        for (int mine = 0; mine <= 3; mine++) {
            for (int its = 0; its <= 3; its++) {
                boolean takesIn = mine == its || mine == 0 || its == 0;
                String number = takesIn ? "1" : "-1";
                says("A hut in the area " + mine + " takes in a sheet of the area " + its + ": " + takesIn,
                    "hut(" + mine + ") 0; hut(" + its + ") 1; pass(0, 1, 1) 0; go(1) 2",
                    "sheet(0, 1, 0) " + number, "sheet(1, 0, 0) " + number, "sheet(0, 0, 0) 1; sheet(1, 1, 0) 1");
            }
        }
        says("A hut in the area 0 takes in all, from a hut that has them",
            "hut(0) 0; hut(3) 1; hut(3) 2; hut(2) 3; pass(0, 1, 1) 0; pass(1, 2, 1) 1; pass(0, 3, 1) 2; go(9) 4",
            "told(0, 1) 4; told(1, 1) 3; told(2, 1) 3; told(3, 1) 2; sheet(0, 2, 0) 1; sheet(2, 3, 0) -1");
        says("What a hut does not take in cannot be got from it, in the area 0 either",
            "hut(0) 0; hut(1) 1; hut(2) 2; hut(0) 3; pass(0, 1, 1) 0; pass(1, 2, 1) 1; pass(2, 3, 1) 2; go(19) 4",
            "sheet(0, 1, 0) 1; sheet(0, 2, 0) -1; sheet(0, 3, 0) 1; sheet(3, 1, 0) -1; sheet(1, 2, 0) -1");
    }

    private static void writing() {
        says("A new sheet is written, if the hut has none of its own",
            "hut(0) 0; go(1) 1; burn(0) 1; go(1) 1; sheet(0, 0, 0) 2; burn(0) 1; burn(0) 0; go(1) 1; sheet(0, 0, 0) 3",
            "hut(0) 1; go(1) 1; sheet(1, 1, 0) 1; sheet(0, 0, 0) 3; go(1) 0");
        says("If that is 20 minutes old or older: not at 19",
            "hut(0) 0; go(19) 1; sheet(0, 0, 1) 19; go(1) 0; sheet(0, 0, 0) 1; sheet(0, 0, 1) 20");
        says("If that is 20 minutes old or older: at 20",
            "hut(0) 0; go(20) 1; sheet(0, 0, 1) 20; go(1) 1; sheet(0, 0, 0) 2; sheet(0, 0, 1) 1; go(19) 0; go(1) 1");
        says("Of the age 0, in the place of the one that it has",
            "hut(0) 0; go(20) 1; told(0, 1) 1; go(1) 1; told(0, 1) 1; sheet(0, 0, 1) 1; mean() 1.0");
    }

    private static void writingOtherwise() {
        String otherwise = "If it tells otherwise than its open passes and their lengths are now: ";
        says(otherwise + "a pass shut",
            TWO_HUTS, "go(1) 2; setOpen(0, false) true; go(1) 2; sheet(0, 0, 2) 0; go(1) 0");
        says(otherwise + "a pass opened",
            TWO_HUTS, "setOpen(0, false) true; go(1) 2; setOpen(0, true) false; go(1) 2; sheet(0, 0, 2) 1; go(1) 0");
        says(otherwise + "a length one greater or one less",
            TWO_HUTS, "go(1) 2; setLength(0, 8) 7; go(1) 2; setLength(0, 7) 8; go(1) 2; go(1) 0");
        says(otherwise + "a new pass", TWO_HUTS, "go(1) 2; pass(1, 0, 7) 1; go(1) 2; sheet(1, 1, 2) 2; go(1) 0");
        says(otherwise + "two lengths changed with one another",
            TWO_HUTS, "pass(0, 1, 9) 1; go(1) 2; setLength(0, 9) 7; setLength(1, 7) 9; go(1) 2; go(1) 0");
        says(otherwise + "one pass opened for another as long",
            TWO_HUTS, "pass(0, 1, 7) 1; setOpen(1, false) true; go(1) 2; setOpen(1, true) false",
            "setOpen(0, false) true; go(1) 2; sheet(0, 0, 2) 1; go(1) 0");
        says(otherwise + "the first and the last of 20 passes",
            huts(2), passesBetweenTwo(20), "go(1) 2; setLength(19, 8) 9; go(1) 2; setOpen(0, false) true; go(1) 2",
            "go(1) 0");
        says(otherwise + "not, if it is as it was",
            TWO_HUTS, "pass(0, 1, 9) 1; setOpen(1, false) true; go(1) 2; setLength(0, 7) 7; go(1) 0",
            "setLength(0, 8) 7; setLength(0, 7) 8; setOpen(0, false) true; setOpen(0, true) false; setLength(1, 3) 9",
            "go(1) 0; setOpen(1, false) false; setOpen(0, true) true; go(1) 0; sheet(0, 0, 0) 1");
        says(otherwise + "not for a pass of others",
            TWO_HUTS, "hut(0) 2; go(1) 3; pass(1, 2, 1) 1; go(1) 2; sheet(0, 0, 0) 1; sheet(1, 1, 0) 2",
            "sheet(2, 2, 0) 2");
    }

    private static void carrying() {
        says("Carrying, all at once: over one pass in a minute",
            huts(4), line(4, 1), "go(1) 4; told(0, 1) 2; told(1, 1) 3; told(2, 1) 3; told(3, 1) 2; go(1) 0",
            "told(0, 1) 3; told(3, 1) 3; sheet(0, 3, 0) -1; go(1) 0; told(0, 1) 4; sheet(0, 3, 1) 3; sheet(3, 0, 1) 3");
        says("Carrying, all at once: whatever the numbers of the passes",
            huts(4), "pass(3, 2, 1) 0; pass(2, 1, 1) 1; pass(1, 0, 1) 2; go(1) 4; told(0, 1) 2; told(1, 1) 3",
            "told(2, 1) 3; told(3, 1) 2; go(1) 0; told(0, 1) 3; told(3, 1) 3; go(1) 0; told(0, 1) 4; told(3, 1) 4");
        says("By what huts have behind step 1",
            TWO_HUTS, "go(1) 2; sheet(0, 1, 0) 1; setLength(0, 8) 7; go(1) 2; sheet(0, 1, 0) 2; sheet(0, 1, 1) 1",
            "sheet(1, 0, 0) 2; way(0, 1, 0) 8");
        says("Over each open pass each hut gets all sheets that the other one has",
            huts(4), "pass(0, 1, 1) 0; pass(2, 0, 1) 1; pass(0, 3, 1) 2; go(1) 4; told(0, 1) 4; told(1, 1) 2",
            "told(2, 1) 2; go(1) 0; told(1, 1) 4; told(2, 1) 4; told(3, 1) 4");
        says("Over each open pass: not over a shut one",
            TWO_HUTS, "setOpen(0, false) true; go(60) 6; sheet(0, 1, 0) -1; sheet(1, 0, 0) -1; count(4) 2");
        says("Over each open pass: one of several is enough",
            TWO_HUTS, "pass(1, 0, 3) 1; setOpen(0, false) true; go(1) 2; sheet(0, 1, 0) 1; sheet(1, 0, 0) 1",
            "setOpen(1, false) true; go(1) 2; sheet(0, 1, 0) 1; sheet(1, 0, 0) 1; sheet(0, 0, 0) 2");
        says("Over each open pass: the 20th as well",
            huts(3), passesBetweenTwo(19), "pass(1, 2, 4) 19; go(2) 3; sheet(0, 2, 0) 1; sheet(2, 0, 0) 1",
            "way(0, 2, 0) 13");
        says("Over each open pass: to the 10th hut as well",
            huts(10), "pass(9, 0, 1) 0; go(1) 10; sheet(9, 0, 0) 1; sheet(0, 9, 0) 1; told(9, 1) 2; count(4) 12");
        says("A hut gets no sheet that itself wrote",
            TWO_HUTS, "go(1) 2; burn(0) 2; sheet(1, 0, 0) 1; go(1) 1; sheet(0, 0, 0) 2; sheet(0, 0, 1) 1",
            "told(0, 2) 2; sheet(1, 0, 0) 2");
    }

    private static void keepingTheNewer() {
        // Huts 0-1-3-2: behind a change at 0, hut 3 gets the new sheet of 0 from 1 and the old one from 2 at once.
        String changed = """
            go(3) 4; setLength(0, 6) 5; go(1) 2; sheet(1, 0, 0) 2; sheet(3, 0, 0) 1; sheet(2, 0, 0) 1
            go(1) 0; sheet(1, 0, 0) 2; sheet(3, 0, 0) 2; sheet(3, 0, 1) 2; sheet(2, 0, 0) 1
            go(1) 0; sheet(2, 0, 0) 2; sheet(3, 0, 0) 2; sheet(1, 0, 0) 2; sheet(0, 0, 0) 2
            """;
        says("It keeps that with the greatest number: the newer one told first",
            huts(4), "pass(0, 1, 5) 0; pass(1, 3, 5) 1; pass(3, 2, 5) 2", changed);
        says("It keeps that with the greatest number: the newer one told last",
            huts(4), "pass(1, 0, 5) 0; pass(2, 3, 5) 1; pass(3, 1, 5) 2", changed);
        says("It keeps that with the greatest number: its own one as well",
            TWO_HUTS, "go(1) 2; burn(1) 2; go(1) 1; sheet(0, 1, 0) 2; setOpen(0, false) true; go(1) 2",
            "sheet(0, 1, 0) 2; hut(0) 2; pass(2, 0, 1) 1; go(1) 2; sheet(2, 1, 0) 2; pass(1, 2, 1) 2; go(1) 2",
            "sheet(2, 1, 0) 4; sheet(0, 1, 0) 2; go(1) 0; sheet(0, 1, 0) 4; sheet(2, 1, 0) 4");
    }

    private static void gettingOld() {
        says("All sheets are 1 minute older: the own one, and those of others",
            LINE_OF_THREE, "go(1) 3; sheet(0, 0, 1) 1; sheet(0, 1, 1) 1; go(2) 0; sheet(0, 0, 1) 3; sheet(0, 1, 1) 3",
            "sheet(0, 2, 1) 3");
        says("Those older than 30 are thrown away: not at 30, but at 31",
            TWO_HUTS, "go(1) 2; setOpen(0, false) true; go(29) 4; sheet(0, 1, 1) 30; sheet(1, 0, 1) 30; count(4) 4",
            "go(1) 0; sheet(0, 1, 0) -1; sheet(0, 1, 1) -1; sheet(1, 0, 2) -1; count(4) 2; told(0, 1) 1");
        says("Those older than 30 are thrown away: one carried at 29 is kept at 30",
            TWO_HUTS, "go(1) 2; setOpen(0, false) true; hut(0) 2; go(28) 6; sheet(1, 0, 1) 29; pass(1, 2, 1) 1",
            "go(1) 2; sheet(2, 0, 0) 1; sheet(2, 0, 1) 30; go(1) 0; sheet(2, 0, 0) -1");
        says("Those older than 30 are thrown away: one carried at 30 is thrown away at once",
            TWO_HUTS, "go(1) 2; setOpen(0, false) true; hut(0) 2; go(29) 6; sheet(1, 0, 1) 30; pass(1, 2, 1) 1",
            "go(1) 2; sheet(2, 0, 0) -1; sheet(1, 0, 0) -1; sheet(2, 1, 0) 4");
        // Hut 0 got the sheet of 2 by 3; hut 1, over which its way goes, does not carry it.
        says("Those older than 30 are thrown away: a way is no longer known by them",
            "hut(0) 0; hut(2) 1; hut(1) 2; hut(0) 3; pass(0, 1, 1) 0; pass(1, 2, 1) 1; pass(2, 3, 9) 2",
            "pass(3, 0, 9) 3; go(2) 4; way(0, 2, 0) 2; setOpen(3, false) true; go(28) 6; sheet(0, 2, 1) 30",
            "way(0, 2, 0) 2; about(1, 4) 2; go(1) 0; sheet(0, 2, 1) -1; way(0, 2, 0) -1; about(1, 4) 0; told(0, 3) 2");
        says("The minute is 1 greater", "go(1) 0; count(0) 1; go(1) 0; count(0) 2; go(58) 0; count(0) 60");
    }

    private static void passesTakenForOpen() {
        says("It takes a pass for open, if the sheets of both its huts tell it: not with one of them alone",
            LINE_OF_THREE, "go(1) 3; sheet(0, 1, 2) 2; sheet(0, 2, 0) -1; way(0, 2, 0) -1; about(1, 4) 2",
            "sheet(2, 0, 0) -1; way(2, 0, 0) -1; about(0, 4) 2; go(1) 0; way(0, 2, 0) 14; way(2, 0, 0) 14",
            "about(0, 4) 3; about(1, 4) 3");
        says("It takes a pass for open, if the sheets of both its huts tell it: not, if one does not tell it yet",
            LINE_OF_THREE, "go(2) 3; pass(1, 2, 1) 2; pass(1, 0, 1) 3; go(1) 3; way(0, 2, 0) 10; way(2, 0, 0) 6",
            "about(2, 4) 2; about(3, 4) 2; go(1) 0; way(0, 2, 0) 2; way(2, 0, 0) 2; about(2, 4) 3; about(3, 4) 3");
        says("It takes a pass for open, if the sheets of both its huts tell it: not, if one tells it no longer",
            LINE_OF_THREE, "go(2) 3; setOpen(1, false) true; about(1, 4) 3; go(1) 2; sheet(0, 2, 2) 1",
            "sheet(0, 1, 2) 1; about(1, 4) 0; way(0, 2, 0) -1; told(0, 3) 2");
        says("Its own one as well, where it is one of them",
            TWO_HUTS, "go(1) 2; way(0, 1, 0) 7; burn(0) 2; way(0, 1, 0) -1; way(1, 0, 0) 7; about(0, 4) 1; go(1) 1",
            "way(0, 1, 0) 7; about(0, 4) 2");
        says("Its own one as well, where it is one of them: not, if that tells it no longer",
            TWO_HUTS, "go(1) 2; setOpen(0, false) true; go(1) 2; sheet(0, 1, 2) 1; sheet(0, 0, 2) 0; way(0, 1, 0) -1",
            "way(1, 0, 0) -1; about(0, 4) 0; setOpen(0, true) false; post(0, 1) -1; go(1) 2; post(0, 1) 1",
            "about(0, 4) 2");
        says("By the sheets, not by what the passes are now",
            TWO_HUTS, "way(0, 1, 0) -1; go(1) 2; setOpen(0, false) true; way(0, 1, 0) 7; about(0, 4) 2",
            "pass(0, 1, 1) 1; way(0, 1, 0) 7; about(1, 4) 0; setLength(0, 3) 7; way(0, 1, 0) 7; go(1) 2",
            "way(0, 1, 0) 1; about(1, 4) 2");
    }

    private static void lengthsOfWays() {
        String shorter = """
            go(2) 3; setLength(1, 2) 9; go(1) 2; sheet(0, 1, 0) 2; sheet(0, 2, 0) 1; way(0, 2, 0) 7
            go(1) 0; sheet(0, 2, 0) 2; way(0, 2, 0) 7
            """;
        says("Its length is that which the sheet of the hut says from which one goes: the hut told first",
            LINE_OF_THREE, shorter);
        says("Its length is that which the sheet of the hut says from which one goes: the hut told second",
            huts(3), "pass(0, 1, 5) 0; pass(2, 1, 9) 1", shorter);
        says("Its length is that which the sheet of the hut says from which one goes, though the other is newer",
            huts(4), "pass(0, 1, 1) 0; pass(1, 2, 1) 1; pass(2, 3, 1) 2; pass(3, 0, 40) 3; go(3) 4",
            "setLength(2, 20) 1; go(1) 2; sheet(0, 3, 0) 2; sheet(0, 2, 0) 1; way(0, 3, 0) 3; way(1, 3, 0) 21",
            "go(1) 0; way(0, 3, 0) 22");
        says("The shortest one over such passes: of one pass or of several",
            huts(3), "pass(0, 1, 50) 0; pass(1, 2, 48) 1; pass(0, 2, 99) 2; go(3) 3; way(0, 2, 0) 98; way(0, 2, 1) 2",
            "setLength(2, 97) 99; go(3) 2; way(0, 2, 0) 97; way(0, 2, 1) 1; way(2, 0, 2) 0");
        says("The shortest one over such passes: of several between two huts",
            TWO_HUTS, "pass(1, 0, 6) 1; pass(0, 1, 8) 2; go(1) 2; way(0, 1, 0) 6; way(1, 0, 0) 6");
    }

    private static void waysAsShort() {
        says("Of several as short ones that with the fewest passes: whatever the numbers of the huts",
            huts(3), "pass(0, 1, 2) 0; pass(1, 2, 2) 1; pass(0, 2, 4) 2; go(2) 3; way(0, 2, 0) 4; way(0, 2, 1) 1",
            "way(0, 2, 2) 2; way(2, 0, 1) 1; way(2, 0, 2) 0");
        says("Of several as short ones that with the fewest passes: over others",
            huts(5), "pass(0, 1, 1) 0; pass(1, 2, 1) 1; pass(2, 4, 1) 2; pass(0, 3, 1) 3; pass(3, 4, 2) 4; go(4) 5",
            "way(0, 4, 0) 3; way(0, 4, 1) 2; way(0, 4, 2) 3; way(4, 0, 1) 2; way(4, 0, 2) 3");
        // From 0 by 1-5 or 2-4 to 6; from 6 by 4-2 or 5-1: there the smallest number is not that of the other way.
        String crossed = """
            way(0, 6, 0) 3; way(0, 6, 1) 3; way(0, 6, 2) 1
            way(6, 0, 0) 3; way(6, 0, 1) 3; way(6, 0, 2) 4
            """;
        says("Of several still that whose huts are told by the smallest numbers at the first place where they differ",
            huts(7), "pass(0, 1, 1) 0; pass(1, 5, 1) 1; pass(5, 6, 1) 2; pass(0, 2, 1) 3; pass(2, 4, 1) 4",
            "pass(4, 6, 1) 5; go(6) 7", crossed);
        says("The smallest numbers of the huts, not of the passes",
            huts(7), "pass(4, 6, 1) 0; pass(2, 4, 1) 1; pass(0, 2, 1) 2; pass(5, 6, 1) 3; pass(1, 5, 1) 4",
            "pass(0, 1, 1) 5; go(6) 7", crossed);
        says("Its first step is the next hut on this way",
            huts(4), "pass(3, 1, 1) 0; pass(1, 0, 1) 1; pass(0, 2, 1) 2; go(3) 4; way(3, 2, 2) 1; way(2, 3, 2) 0",
            "way(3, 1, 2) 1; way(1, 2, 2) 0; way(0, 3, 2) 1");
    }

    private static void letters() {
        says("A letter is lost, if a hut is asked for a way that it does not know: the first one",
            LINE_OF_THREE, "post(0, 1) -1; go(1) 3; post(0, 1) 1; post(0, 2) -1; burn(0) 2; post(0, 1) -1");
        says("A letter is lost, if a hut is asked for a way that it does not know: a following one",
            LINE_OF_THREE, "go(2) 3; post(0, 2) 2; burn(1) 3; way(0, 2, 0) 14; post(0, 2) -1; post(0, 1) 1; burn(2) 3",
            "post(0, 2) -1");
        says("A letter comes, though the last hut has no sheet", LINE_OF_THREE, "go(2) 3; burn(2) 3; post(0, 2) 2");
        says("A letter is lost, if the step is over no pass that is open now: the first one",
            LINE_OF_THREE, "go(2) 3; setOpen(0, false) true; way(0, 2, 0) 14; post(0, 2) -1; post(0, 1) -1",
            "post(1, 2) 1");
        says("A letter is lost, if the step is over no pass that is open now: a following one",
            LINE_OF_THREE, "go(2) 3; setOpen(1, false) true; post(0, 2) -1; post(0, 1) 1; post(2, 0) -1",
            "setOpen(1, true) false; post(0, 2) 2; post(2, 0) 2");
        says("Of several to the same hut any one will do",
            TWO_HUTS, "pass(1, 0, 99) 1; go(1) 2; setOpen(0, false) true; way(0, 1, 0) 7; post(0, 1) 1; post(1, 0) 1",
            "setOpen(1, false) true; post(0, 1) -1; pass(0, 1, 50) 2; post(0, 1) 1; post(1, 0) 1");
        says("It is lost, if it would have to go more than 20 steps: to and fro between two huts",
            huts(5), "pass(0, 1, 1) 0; pass(1, 2, 1) 1; pass(2, 3, 1) 2; pass(0, 4, 10) 3; pass(4, 3, 10) 4; go(4) 5",
            "setOpen(2, false) true; go(1) 2; way(0, 3, 2) 1; way(1, 3, 2) 0; post(0, 3) -1; post(1, 3) -1",
            "told(0, 4) 4");
        says("It is lost, if it would have to go more than 20 steps: 9 are not too many",
            huts(10), line(10, 1), "go(9) 10; post(0, 9) 9; post(9, 0) 9; post(0, 8) 8; told(0, 4) 10; count(5) 90");
        // Hut 1 knows that 2-3 is shut and sends the letter of 0 by 4 and 5; 0 still takes it for going by 2.
        says("As that hut and each following one know their ways",
            huts(6), "pass(0, 1, 1) 0; pass(1, 2, 1) 1; pass(2, 3, 1) 2; pass(1, 4, 10) 3; pass(4, 5, 1) 4",
            "pass(5, 3, 1) 5; go(9) 6; post(0, 3) 3; setOpen(2, false) true; go(1) 2; way(0, 3, 0) 3; way(0, 3, 1) 3",
            "way(1, 3, 0) 12; post(0, 3) 4; post(1, 3) 3; go(1) 0; way(0, 3, 0) 13; way(0, 3, 1) 4; post(0, 3) 4");
    }

    // ---- the promises

    private static void newObject() {
        says("1: Creates a mountain without huts, in the minute 0",
            "count(0) 0; count(1) 0; count(2) 0; count(3) 0; count(4) 0; count(5) 0; count(6) 0; settles() 0",
            "advise() -1; mean() 0.0; foresee(1, 4) 0; foresee(60, 5) 0; digest() 44763023158597; go(60) 0; hut(0) 0");
    }

    private static void hut() {
        says("2: IllegalArgumentException if area is not 0 to 3",
            refused(ARGUMENT, "hut(-1); hut(4); hut(LEAST); hut(GREATEST)"),
            "count(1) 0; hut(0) 0; hut(3) 1; hut(1) 2; hut(2) 3; told(0, 0) 0; told(1, 0) 3; told(2, 0) 1",
            "told(3, 0) 2");
        says("2: IllegalStateException if there are 10: not with 9",
            huts(9), "hut(3) 9; count(1) 10; told(9, 0) 3; told(9, 3) 1; post(9, 9) 0; go(1) 10");
        says("2: IllegalStateException if there are 10",
            huts(10), refused(STATE, "hut(0); hut(3); hut(0)"), "count(1) 10; go(1) 10", refused(STATE, "hut(1)"));
        says("2: the IllegalArgumentException is named first", huts(10), refused(ARGUMENT, "hut(4); hut(-1)"));
    }

    private static void pass() {
        says("3: IndexOutOfBoundsException if there is no such hut: none, or one, or two",
            refused(INDEX, "pass(0, 0, 1); pass(0, 1, 1)"), "hut(0) 0",
            refused(INDEX, "pass(0, 1, 1); pass(1, 0, 1); pass(1, 1, 1)"), "hut(0) 1",
            refused(INDEX, "pass(0, 2, 1); pass(2, 0, 1); pass(-1, 0, 1); pass(0, -1, 1)"),
            refused(INDEX, "pass(LEAST, 0, 1); pass(0, LEAST, 1); pass(GREATEST, 0, 1); pass(0, GREATEST, 1)"),
            "count(2) 0; pass(1, 0, 1) 0");
        says("3: IndexOutOfBoundsException if there is no such hut: beyond 10",
            huts(10), refused(INDEX, "pass(0, 10, 1); pass(10, 0, 1)"), "pass(9, 0, 1) 0; pass(0, 9, 1) 1");
        says("3: IllegalArgumentException if both are the same",
            huts(2), refused(ARGUMENT, "pass(0, 0, 1); pass(1, 1, 99)"), "count(2) 0");
        says("3: IllegalArgumentException if length is not 1 to 99",
            huts(2), refused(ARGUMENT, "pass(0, 1, 0); pass(0, 1, 100)"),
            refused(ARGUMENT, "pass(0, 1, -1); pass(0, 1, LEAST); pass(0, 1, GREATEST)"),
            "count(2) 0; pass(0, 1, 1) 0; pass(0, 1, 99) 1; about(0, 2) 1; about(1, 2) 99");
        says("3: IllegalStateException if there are 20: not with 19",
            huts(2), passesBetweenTwo(19), "pass(1, 0, 3) 19; count(2) 20; about(19, 0) 1; about(19, 2) 3",
            "truth(0, 1) 3");
        says("3: IllegalStateException if there are 20, shut ones as well",
            huts(2), passesBetweenTwo(20), refused(STATE, "pass(0, 1, 9); pass(1, 0, 1)"), "setOpen(0, false) true",
            refused(STATE, "pass(0, 1, 9)"), "count(2) 20; count(3) 19");
        says("3: IndexOutOfBoundsException is named before IllegalArgumentException",
            huts(2), refused(INDEX, "pass(2, 2, 5); pass(-1, -1, 5); pass(0, 2, 0); pass(2, 0, 100); pass(2, 2, 0)"));
        says("3: both are named before IllegalStateException",
            huts(2), passesBetweenTwo(20), refused(INDEX, "pass(0, 2, 9); pass(-1, 0, 9); pass(2, 2, 0)"),
            refused(ARGUMENT, "pass(0, 0, 9); pass(0, 1, 0); pass(0, 1, 100); pass(1, 1, 0)"));
        says("3: there can be several",
            huts(2), "pass(0, 1, 5) 0; pass(0, 1, 5) 1; pass(1, 0, 5) 2; count(3) 3; truth(0, 1) 5");
        says("Passes are open at first", TWO_HUTS, "about(0, 3) 1; count(3) 1; setOpen(0, true) true; truth(1, 0) 7");
    }

    private static void setLength() {
        says("4: its length from now on, the one before is returned",
            TWO_HUTS, "setLength(0, 8) 7; setLength(0, 9) 8; about(0, 2) 9; truth(0, 1) 9; setLength(0, 9) 9",
            "setOpen(0, false) true; setLength(0, 3) 9; about(0, 2) 3; setOpen(0, true) false; truth(0, 1) 3");
        says("4: IndexOutOfBoundsException if there is no such pass",
            refused(INDEX, "setLength(0, 1)"), TWO_HUTS,
            refused(INDEX, "setLength(1, 1); setLength(-1, 1); setLength(LEAST, 1); setLength(GREATEST, 1)"),
            "about(0, 2) 7");
        says("4: IndexOutOfBoundsException if there is no such pass: beyond 20",
            huts(2), passesBetweenTwo(20), refused(INDEX, "setLength(20, 1)"), "setLength(19, 1) 9; truth(0, 1) 1");
        says("4: IllegalArgumentException if length is not 1 to 99",
            TWO_HUTS, refused(ARGUMENT, "setLength(0, 0); setLength(0, 100)"),
            refused(ARGUMENT, "setLength(0, -1); setLength(0, LEAST); setLength(0, GREATEST)"),
            "setLength(0, 1) 7; truth(0, 1) 1; setLength(0, 99) 1; truth(0, 1) 99");
        says("4: IndexOutOfBoundsException is named first",
            refused(INDEX, "setLength(0, 0)"), TWO_HUTS, refused(INDEX, "setLength(1, 0); setLength(-1, 100)"));
    }

    private static void setOpen() {
        says("5: whether it is open from now on, whether it was is returned",
            TWO_HUTS, "setOpen(0, true) true; setOpen(0, false) true; setOpen(0, false) false; truth(0, 1) -1",
            "about(0, 3) 0; setOpen(0, true) false; setOpen(0, true) true; truth(0, 1) 7; about(0, 3) 1");
        says("5: IndexOutOfBoundsException if there is no such pass",
            refused(INDEX, "setOpen(0, true)"), TWO_HUTS,
            refused(INDEX, "setOpen(1, false); setOpen(-1, false); setOpen(LEAST, true); setOpen(GREATEST, false)"),
            "count(3) 1");
        says("5: IndexOutOfBoundsException if there is no such pass: beyond 20",
            huts(2), passesBetweenTwo(20), refused(INDEX, "setOpen(20, false)"), "setOpen(19, false) true",
            "count(3) 19");
    }

    private static void burn() {
        says("6: Burns all sheets of a hut, its own one as well",
            LINE_OF_THREE, "go(2) 3; burn(1) 3; sheet(1, 0, 0) -1; sheet(1, 1, 0) -1; sheet(1, 2, 0) -1; told(1, 1) 0",
            "sheet(0, 1, 0) 1; sheet(2, 1, 0) 1; count(4) 6");
        says("6: how many it wrote stays",
            "hut(0) 0; go(1) 1; burn(0) 1; told(0, 2) 1; go(1) 1; sheet(0, 0, 0) 2; told(0, 2) 2; burn(0) 1",
            "told(0, 2) 2");
        says("6: Returns how many it had: 0 without any",
            TWO_HUTS, "burn(0) 0; go(1) 2; burn(0) 2; burn(0) 0; burn(1) 2");
        says("6: Returns how many it had: 10 of 10",
            huts(10), line(10, 1), "go(8) 10; burn(0) 9; burn(9) 9; go(3) 2; burn(4) 10; count(4) 90");
        says("6: IndexOutOfBoundsException if there is no such hut",
            refused(INDEX, "burn(0)"), TWO_HUTS, "go(1) 2",
            refused(INDEX, "burn(2); burn(-1); burn(LEAST); burn(GREATEST)"), "count(4) 4");
        says("6: IndexOutOfBoundsException if there is no such hut: beyond 10",
            huts(10), "go(1) 10", refused(INDEX, "burn(10)"), "burn(9) 1");
    }

    private static void sheet() {
        says("7: -1 for each of these without one",
            TWO_HUTS, "sheet(0, 1, 0) -1; sheet(0, 1, 1) -1; sheet(0, 1, 2) -1; sheet(0, 0, 0) -1; sheet(0, 0, 1) -1",
            "sheet(0, 0, 2) -1; go(1) 2; sheet(0, 1, 0) 1; sheet(0, 1, 1) 1; sheet(0, 1, 2) 1; burn(0) 2",
            "sheet(0, 0, 0) -1; sheet(0, 0, 1) -1; sheet(0, 0, 2) -1");
        says("7: of the sheet of the second one that the first one has",
            TWO_HUTS, "hut(0) 2; pass(1, 2, 3) 1; go(1) 3; burn(0) 2; go(1) 1; sheet(1, 0, 0) 2; sheet(0, 1, 0) 1",
            "sheet(0, 1, 2) 2; sheet(1, 0, 2) 1; sheet(0, 1, 1) 2; sheet(1, 0, 1) 1; sheet(2, 0, 0) 1",
            "sheet(0, 2, 0) 1");
        says("7: how many passes it tells: 0 and 20",
            huts(3), passesBetweenTwo(20), "go(1) 3; sheet(0, 0, 2) 20; sheet(1, 0, 2) 20; sheet(2, 2, 2) 0");
        says("7: IndexOutOfBoundsException if there is no such hut",
            refused(INDEX, "sheet(0, 0, 0)"), TWO_HUTS,
            refused(INDEX, "sheet(2, 0, 0); sheet(0, 2, 0); sheet(-1, 0, 0)"),
            refused(INDEX, "sheet(0, -1, 0); sheet(LEAST, 0, 0); sheet(0, GREATEST, 0)"));
        says("7: IndexOutOfBoundsException if there is no such hut: beyond 10",
            huts(10), refused(INDEX, "sheet(10, 0, 0); sheet(0, 10, 0)"), "go(1) 10; sheet(9, 9, 0) 1",
            "sheet(0, 9, 0) -1");
        says("7: IndexOutOfBoundsException if what is not 0 to 2",
            TWO_HUTS, refused(INDEX, "sheet(0, 0, -1); sheet(0, 0, 3); sheet(0, 1, LEAST); sheet(0, 1, GREATEST)"),
            "go(1) 2", refused(INDEX, "sheet(0, 0, -1); sheet(0, 0, 3); sheet(0, 1, 3)"));
    }

    private static void way() {
        says("8: 0, 0 and itself, if both are the same: without a sheet and with one",
            TWO_HUTS, "way(0, 0, 0) 0; way(0, 0, 1) 0; way(0, 0, 2) 0; way(1, 1, 0) 0; way(1, 1, 1) 0; way(1, 1, 2) 1",
            "go(1) 2; way(1, 1, 0) 0; way(1, 1, 1) 0; way(1, 1, 2) 1; burn(1) 2; way(1, 1, 2) 1; way(1, 1, 0) 0");
        says("8: -1 for each of these without one",
            TWO_HUTS, "hut(0) 2; way(0, 1, 0) -1; way(0, 1, 1) -1; way(0, 1, 2) -1; go(1) 3; way(0, 2, 0) -1",
            "way(0, 2, 1) -1; way(0, 2, 2) -1; way(2, 0, 0) -1; way(0, 1, 0) 7; way(0, 1, 1) 1; way(0, 1, 2) 1",
            "way(1, 0, 2) 0");
        says("8: the longest way that there can be, over 9 passes of 99",
            huts(10), line(10, 99), "go(9) 10; way(0, 9, 0) 891; way(0, 9, 1) 9; way(0, 9, 2) 1; way(9, 0, 0) 891",
            "way(9, 0, 2) 8");
        says("8: IndexOutOfBoundsException if there is no such hut",
            refused(INDEX, "way(0, 0, 0)"), TWO_HUTS,
            refused(INDEX, "way(2, 0, 0); way(0, 2, 0); way(2, 2, 0); way(-1, 0, 0)"),
            refused(INDEX, "way(0, -1, 0); way(-1, -1, 0); way(LEAST, 0, 0); way(0, GREATEST, 0)"));
        says("8: IndexOutOfBoundsException if there is no such hut: beyond 10",
            huts(10), refused(INDEX, "way(10, 0, 0); way(0, 10, 0); way(10, 10, 2)"), "way(9, 9, 2) 9",
            "way(0, 9, 2) -1");
        says("8: IndexOutOfBoundsException if what is not 0 to 2",
            TWO_HUTS, refused(INDEX, "way(0, 0, -1); way(0, 0, 3); way(0, 1, LEAST); way(0, 1, GREATEST)"),
            "go(1) 2", refused(INDEX, "way(0, 1, -1); way(0, 1, 3)"));
    }

    private static void post() {
        says("9: Returns over how many passes a letter comes to it: 0 to itself, without a sheet as well",
            TWO_HUTS, "post(0, 0) 0; post(1, 1) 0; go(1) 2; post(1, 1) 0; burn(1) 2; post(1, 1) 0; post(0, 1) 1");
        says("9: -1 if it is lost",
            TWO_HUTS, "post(0, 1) -1; go(1) 2; setOpen(0, false) true; post(0, 1) -1; post(1, 0) -1");
        says("9: if it goes all in one minute (nothing is changed)",
            LINE_OF_THREE, "go(2) 3; post(0, 2) 2; count(0) 2; post(0, 2) 2; sheet(0, 2, 1) 2; told(1, 1) 3");
        says("9: IndexOutOfBoundsException if there is no such hut",
            refused(INDEX, "post(0, 0)"), TWO_HUTS,
            refused(INDEX, "post(2, 0); post(0, 2); post(2, 2); post(-1, 0)"),
            refused(INDEX, "post(0, -1); post(-1, -1); post(LEAST, 0); post(0, GREATEST)"));
        says("9: IndexOutOfBoundsException if there is no such hut: beyond 10",
            huts(10), refused(INDEX, "post(10, 0); post(0, 10); post(10, 10)"), "post(9, 9) 0; post(0, 9) -1");
    }

    private static void truth() {
        says("10: how long the way between them is in truth: 0 to itself, -1 without one",
            huts(3), "truth(0, 0) 0; truth(0, 1) -1; pass(0, 1, 99) 0; truth(0, 1) 99; truth(1, 0) 99; truth(0, 2) -1",
            "truth(2, 1) -1; truth(2, 2) 0; setOpen(0, false) true; truth(0, 1) -1; truth(1, 0) -1; truth(1, 1) 0");
        says("10: the shortest way over open passes, by their lengths now",
            huts(3), "pass(0, 1, 50) 0; pass(1, 2, 48) 1; pass(0, 2, 99) 2; truth(0, 2) 98; setLength(2, 97) 99",
            "truth(2, 0) 97; go(3) 3; setOpen(2, false) true; truth(0, 2) 98; way(0, 2, 0) 97; setLength(1, 1) 48",
            "truth(0, 2) 51");
        says("10: the longest way that there can be",
            huts(10), line(10, 99), "truth(0, 9) 891; truth(9, 0) 891; truth(1, 9) 792");
        says("10: IndexOutOfBoundsException if there is no such hut",
            refused(INDEX, "truth(0, 0)"), TWO_HUTS,
            refused(INDEX, "truth(2, 0); truth(0, 2); truth(2, 2); truth(-1, 0)"),
            refused(INDEX, "truth(0, -1); truth(-1, -1); truth(LEAST, 0); truth(0, GREATEST)"));
        says("10: IndexOutOfBoundsException if there is no such hut: beyond 10",
            huts(10), refused(INDEX, "truth(10, 0); truth(0, 10); truth(10, 10)"), "truth(9, 9) 0; truth(0, 9) -1");
    }

    private static void about() {
        says("11: 0 and 1 its huts, as they were told",
            huts(10), "pass(9, 0, 1) 0; pass(0, 9, 1) 1; about(0, 0) 9; about(0, 1) 0; about(1, 0) 0; about(1, 1) 9");
        says("11: 3 1 if it is open, else 0",
            TWO_HUTS, "about(0, 3) 1; go(1) 2; setOpen(0, false) true; about(0, 3) 0; go(1) 2; setOpen(0, true) false",
            "about(0, 3) 1");
        says("11: 4 how many huts take it for open: from none to all",
            LINE_OF_THREE, "hut(0) 3; about(0, 4) 0; go(1) 4; about(0, 4) 2; about(1, 4) 2; go(1) 0; about(0, 4) 3",
            "setOpen(0, false) true; about(0, 4) 3; burn(2) 3; about(0, 4) 2; pass(2, 3, 1) 2; go(2) 4; about(0, 4) 0",
            "setOpen(0, true) false; go(3) 2; about(0, 4) 4; about(1, 4) 4; about(2, 4) 4");
        says("11: 4 how many huts take it for open: 10 of 10",
            huts(10), line(10, 1), "go(8) 10; about(0, 4) 9; about(8, 4) 9; about(4, 4) 10; go(1) 0; about(0, 4) 10",
            "about(8, 4) 10");
        says("11: IndexOutOfBoundsException if there is no such pass",
            refused(INDEX, "about(0, 0)"), TWO_HUTS,
            refused(INDEX, "about(1, 0); about(-1, 0); about(LEAST, 0); about(GREATEST, 4)"));
        says("11: IndexOutOfBoundsException if there is no such pass: beyond 20",
            huts(2), passesBetweenTwo(20), refused(INDEX, "about(20, 0); about(20, 4)"), "about(19, 2) 9",
            "about(19, 4) 0");
        says("11: IndexOutOfBoundsException if what is not 0 to 4",
            TWO_HUTS, refused(INDEX, "about(0, -1); about(0, 5); about(0, LEAST); about(0, GREATEST)"));
    }

    private static void told() {
        says("12: 1 sheets that it has, 2 sheets that it wrote in all",
            TWO_HUTS, "told(0, 1) 0; told(0, 2) 0; go(1) 2; told(0, 1) 2; told(0, 2) 1; burn(0) 2; told(0, 1) 0",
            "told(0, 2) 1; go(60) 6; told(0, 1) 2; told(0, 2) 4; told(1, 2) 4");
        says("12: 3 huts to which it knows a way, itself counted",
            huts(3), "told(0, 3) 1; pass(0, 1, 1) 0; told(0, 3) 1; go(1) 3; told(0, 3) 2; told(2, 3) 1",
            "pass(1, 2, 1) 1; go(2) 2; told(0, 3) 3; told(2, 3) 3; burn(0) 3; told(0, 3) 1");
        says("12: 4 those of them to which a letter comes, itself as well",
            LINE_OF_THREE, "told(0, 4) 1; go(2) 3; told(0, 4) 3; setOpen(1, false) true; told(0, 3) 3; told(0, 4) 2",
            "told(2, 3) 3; told(2, 4) 1; setOpen(1, true) false; burn(1) 3; told(0, 3) 3; told(0, 4) 2; told(1, 3) 1",
            "told(1, 4) 1");
        says("12: all of ten",
            huts(10), line(10, 1), "go(9) 10; told(0, 1) 10; told(9, 3) 10; told(9, 4) 10; told(9, 0) 0");
        says("12: IndexOutOfBoundsException if there is no such hut",
            refused(INDEX, "told(0, 0)"), TWO_HUTS,
            refused(INDEX, "told(2, 0); told(-1, 0); told(LEAST, 0); told(GREATEST, 4)"));
        says("12: IndexOutOfBoundsException if there is no such hut: beyond 10",
            huts(10), refused(INDEX, "told(10, 0); told(10, 3)"), "told(9, 3) 1");
        says("12: IndexOutOfBoundsException if what is not 0 to 4",
            TWO_HUTS, refused(INDEX, "told(0, -1); told(0, 5); told(0, LEAST); told(0, GREATEST)"));
    }

    private static void count() {
        says("13: 3 open ones: none, some, all",
            huts(2), "count(3) 0; pass(0, 1, 1) 0; pass(0, 1, 1) 1; count(3) 2; setOpen(0, false) true; count(3) 1",
            "count(2) 2; setOpen(1, false) true; count(3) 0; setOpen(1, true) false; count(3) 1");
        says("13: 4 sheets of all huts: none and 100",
            huts(10), line(10, 1), "count(4) 0; go(1) 10; count(4) 28; go(7) 0; count(4) 98; go(1) 0; count(4) 100");
        says("13: 5 pairs of two huts, in either direction, between which a letter comes: no hut with itself",
            "hut(0) 0; go(1) 1; count(5) 0; hut(0) 1; pass(0, 1, 1) 0; count(5) 0; go(1) 2; count(5) 2; burn(0) 2",
            "count(5) 1; setOpen(0, false) true; count(5) 0");
        says("13: 6 those between which there is a way in truth: no hut with itself",
            "hut(0) 0; count(6) 0; hut(1) 1; hut(2) 2; count(6) 0; pass(0, 1, 1) 0; count(6) 2; pass(1, 2, 1) 1",
            "count(6) 6; setOpen(0, false) true; count(6) 2; setOpen(1, false) true; count(6) 0");
        says("13: 6 those between which there is a way in truth: of huts that are apart, whatever their numbers",
            huts(6), "pass(0, 1, 1) 0; pass(2, 4, 1) 1; count(6) 4; pass(3, 5, 1) 2; count(6) 6; pass(0, 3, 1) 3",
            "count(6) 14; setOpen(0, false) true; count(6) 8; setOpen(2, false) true; count(6) 4",
            "setOpen(3, false) true; count(6) 2");
        says("13: 90 pairs of ten huts",
            huts(10), line(10, 1), "count(6) 90; go(8) 10; count(5) 88; go(1) 0; count(5) 90");
        says("13: IndexOutOfBoundsException if what is not 0 to 6",
            refused(INDEX, "count(-1); count(7)"), TWO_HUTS, "go(1) 2",
            refused(INDEX, "count(-1); count(7); count(LEAST); count(GREATEST)"));
    }

    private static void go() {
        says("14: Returns how many sheets are written in them: 0 without huts", "go(60) 0; hut(0) 0; go(1) 1; go(1) 0");
        says("14: Returns how many sheets are written in them: by all huts, in all minutes",
            huts(10), "go(20) 10; go(1) 10; go(60) 30; told(0, 2) 5; burn(0) 1; go(60) 30; told(0, 2) 8; told(1, 2) 8");
        says("14: IllegalArgumentException if minutes is not 1 to 60",
            "hut(0) 0", refused(ARGUMENT, "go(0); go(61); go(-1); go(LEAST); go(GREATEST)"),
            "count(0) 0; told(0, 2) 0; go(1) 1; count(0) 1; go(60) 3; count(0) 61");
    }

    private static void foresee() {
        says("15: minutes, how many, 1 to 60; the same as behind go()",
            TWO_HUTS, "foresee(1, 4) 4; foresee(60, 4) 4; foresee(1, 5) 2; go(1) 2; setOpen(0, false) true",
            "foresee(1, 5) 0; foresee(29, 4) 4; foresee(30, 4) 2; foresee(60, 4) 2; go(29) 4; count(4) 4; go(1) 0",
            "count(4) 2");
        says("15: 4 or 5 as count() has it: the last minute counts",
            huts(10), line(10, 1), "foresee(8, 4) 98; foresee(9, 4) 100; foresee(8, 5) 88; foresee(9, 5) 90",
            "foresee(60, 5) 90");
        // What would be written is newer than the old sheets; a hut that kept those would not know of the opened pass.
        says("15: 4 or 5 as count() has it: by the sheets that would be written",
            LINE_OF_THREE, "pass(0, 1, 8) 2; setOpen(2, false) true; go(25) 6; setOpen(0, false) true",
            "setOpen(2, true) false; count(5) 6; foresee(1, 5) 5; foresee(2, 5) 6; foresee(1, 5) 5; go(1) 2",
            "count(5) 5; go(1) 0; count(5) 6");
        says("15: nothing is changed",
            LINE_OF_THREE, "go(1) 3; foresee(60, 4) 9; foresee(60, 5) 6; count(0) 1; count(4) 7; count(5) 4",
            "told(0, 2) 1; sheet(0, 0, 1) 1; sheet(0, 2, 0) -1; way(0, 2, 0) -1; go(1) 0; foresee(19, 4) 9; go(18) 0",
            "go(1) 3; sheet(0, 0, 0) 2");
        says("15: IllegalArgumentException if minutes is not 1 to 60",
            TWO_HUTS, refused(ARGUMENT, "foresee(0, 4); foresee(0, 5); foresee(61, 4)"),
            refused(ARGUMENT, "foresee(61, 5); foresee(-1, 4); foresee(LEAST, 4); foresee(GREATEST, 5)"));
        says("15: IndexOutOfBoundsException if what is not 4 or 5",
            TWO_HUTS, refused(INDEX, "foresee(1, 3); foresee(1, 6); foresee(60, 3); foresee(60, 6)"),
            refused(INDEX, "foresee(1, 0); foresee(1, -1); foresee(1, LEAST); foresee(1, GREATEST)"));
        says("15: the IllegalArgumentException is named first",
            TWO_HUTS, refused(ARGUMENT, "foresee(0, 3); foresee(61, 6); foresee(0, 6); foresee(61, 3)"));
    }

    private static void settles() {
        says("16: 0 if now",
            "settles() 0; hut(0) 0; settles() 0; hut(0) 1; settles() 0; pass(0, 1, 1) 0; settles() 1; go(1) 2",
            "settles() 0; setOpen(0, false) true; settles() 0");
        says("16: at most 40: the longest that it takes, 9 minutes",
            huts(10), line(10, 1), "settles() 9; go(1) 10; settles() 8; go(8) 0; settles() 0; burn(9) 10; settles() 1",
            "burn(0) 10; settles() 1");
        says("16: at most 40, -1 if not by then",
            "hut(1) 0; hut(2) 1; pass(0, 1, 1) 0; settles() -1; go(60) 6; settles() -1; hut(0) 2; pass(2, 0, 1) 1",
            "settles() -1");
        says("16: between all pairs between which there is a way in truth, in each direction",
            TWO_HUTS, "hut(0) 2; go(1) 3; settles() 0; burn(1) 2; settles() 1; burn(0) 2; settles() 1",
            "pass(2, 1, 1) 1; settles() 2");
        says("16: nothing is changed",
            LINE_OF_THREE, "settles() 2; settles() 2; count(0) 0; count(4) 0; told(0, 2) 0; go(1) 3; settles() 1",
            "settles() 1; count(0) 1; sheet(0, 2, 0) -1");
    }

    private static void advise() {
        says("17: the open pass without which the fewest pairs would have a way in truth",
            huts(6), line(6, 1), "advise() 2; setOpen(2, false) true; advise() 0; setOpen(0, false) true; advise() 3");
        says("17: of several the one with the smallest number",
            huts(4), "pass(0, 1, 9) 0; pass(0, 1, 1) 1; advise() 0; pass(2, 3, 1) 2; advise() 2; pass(3, 2, 1) 3",
            "advise() 0; setOpen(0, false) true; advise() 1; setOpen(2, false) true; advise() 1",
            "setOpen(1, false) true; advise() 3");
        says("17: the last of 20",
            huts(3), passesBetweenTwo(19), "pass(2, 0, 99) 19; advise() 19; setOpen(19, false) true; advise() 0");
        says("17: -1 without open ones",
            "advise() -1; hut(0) 0; hut(0) 1; advise() -1; pass(0, 1, 1) 0; advise() 0; setOpen(0, false) true",
            "advise() -1");
        says("17: in truth, at once: by no sheets, and whatever the areas",
            "hut(1) 0; hut(2) 1; hut(3) 2; pass(0, 1, 1) 0; pass(0, 1, 1) 1; pass(1, 2, 1) 2; advise() 2; go(9) 3",
            "advise() 2");
        says("17: nothing is changed", TWO_HUTS, "advise() 0; about(0, 3) 1; count(3) 1; count(6) 2; advise() 0");
    }

    private static void mean() {
        says("18: 0 without any",
            "mean() 0.0; go(5) 0; mean() 0.0; hut(0) 0; mean() 0.0; go(1) 1; burn(0) 1; mean() 0.0");
        says("18: the mean age of all sheets of all huts",
            TWO_HUTS, "hut(0) 2; go(3) 3; mean() 3.0; burn(2) 1; mean() 3.0; go(1) 1; mean() 3.4; burn(0) 2",
            "mean() 3.0");
        says("18: the oldest that there can be",
            TWO_HUTS, "go(1) 2; setOpen(0, false) true; go(29) 4; mean() 19.5; go(1) 0; mean() 10.0");
    }

    private static void digest() {
        says("19: A number d starts with 1627", "digest() " + folded(0, 0, 0, 0, 0, 0, 0));
        says("19: which wraps around as a 64-bit integer; -1 is taken as it is",
            "hut(3) 0; digest() " + folded(0, 1, 0, 0, 0, 0, 0, 3, 0, 0, 1, 1, -1, -1, -1, 0, 0, 0),
            "go(2) 1; digest() " + folded(2, 1, 0, 0, 1, 0, 0, 3, 1, 1, 1, 1, 1, 2, 0, 0, 0, 0));
        says("19: what count(), told(), about() tell, then for each hut and each hut sheet(), then way()",
            "hut(2) 0; hut(0) 1; pass(1, 0, 9) 0; go(2) 2; burn(0) 2; digest() " + folded(2, 2, 1, 1, 2, 1, 2,
                2, 0, 1, 1, 1, 0, 2, 1, 2, 2, 1, 0, 9, 1, 1,
                -1, -1, -1, 0, 0, 0, -1, -1, -1, -1, -1, -1, 1, 2, 1, 9, 1, 0, 1, 2, 1, 0, 0, 1));
    }

    /** The digest of these numbers, found without wrapping and wrapped once in the end. */
    private static long folded(int... numbers) {
        BigInteger d = BigInteger.valueOf(1627);
        for (int x : numbers) {
            d = d.multiply(BigInteger.valueOf(31)).add(BigInteger.valueOf(x));
        }
        return d.longValue();
    }
}
