import com.sun.management.ThreadMXBean;
import java.lang.management.ManagementFactory;
import java.util.List;
import java.util.function.Consumer;

/** 512 calls, the dearest ones as well, keep to the room that LANGUAGE.md gives a run. */
public final class RoomTest {
    private static final int CALLS = 512;
    // A field or an element takes a byte at least, an object 16: below this there are neither 7.3 million fields and
    // elements nor 600,000 objects.
    private static final long MOST_BYTES = 7_300_000;

    private static final ThreadMXBean THREADS = (ThreadMXBean) ManagementFactory.getThreadMXBean();
    private static final Check CHECK = new Check();

    public static void main(String[] args) {
        keepsToTheRoom("go", x -> x.go(60));
        keepsToTheRoom("foresee of sheets", x -> x.foresee(60, 4));
        keepsToTheRoom("foresee of letters", x -> x.foresee(60, 5));
        keepsToTheRoom("settles", PassNotes::settles);
        keepsToTheRoom("advise", PassNotes::advise);
        keepsToTheRoom("mean", PassNotes::mean);
        keepsToTheRoom("digest", PassNotes::digest);
        keepsToTheRoom("truth", x -> x.truth(0, 9));
        keepsToTheRoom("setLength and go", RoomTest::changeAndGo);
        CHECK.end();
    }

    private static void changeAndGo(PassNotes x) {
        x.setLength(0, 100 - x.about(0, 2));
        x.go(1);
    }

    private static void keepsToTheRoom(String name, Consumer<PassNotes> call) {
        // What the machine itself makes when a call is made for the first time is not to be counted.
        bytesMade(call);
        long bytes = bytesMade(call);
        CHECK.that(name, bytes < MOST_BYTES ? List.of() : List.of(CALLS + " calls make " + bytes + " bytes"));
    }

    private static long bytesMade(Consumer<PassNotes> call) {
        long before = THREADS.getThreadAllocatedBytes(Thread.currentThread().getId());
        PassNotes x = tenHuts();
        for (int made = 0; made < CALLS; made++) {
            call.accept(x);
        }
        return THREADS.getThreadAllocatedBytes(Thread.currentThread().getId()) - before;
    }

    /** Ten huts with 20 passes; the two that are in the areas 1 and 2 never know all ways. */
    private static PassNotes tenHuts() {
        PassNotes x = new PassNotes();
        for (int hut = 0; hut < 10; hut++) {
            x.hut(hut == 1 ? 1 : hut == 2 ? 2 : 0);
        }
        for (int pass = 0; pass < 20; pass++) {
            x.pass(pass % 10, (pass + 1 + pass / 10) % 10, 40 + pass);
        }
        return x;
    }
}
