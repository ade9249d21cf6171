import com.sun.management.ThreadMXBean;
import java.lang.management.ManagementFactory;

/** Rule 12 of LANGUAGE.md, and the room of a run: only new objects and teach take room, and those but little. */
public final class RoomTest {
    private static final ThreadMXBean THREADS = (ThreadMXBean) ManagementFactory.getThreadMXBean();
    private static final int CALLS = 512;
    // 600,000 objects take more than that many times 16 bytes; one object with all its calls shall take a small part of it.
    private static final long PART_OF_THE_ROOM = 600_000L * 16 / 8;
    // Less than one object of 16 bytes a call.
    private static final long AS_GOOD_AS_NOTHING = 16 * CALLS / 2;

    private static final String DEAR = "pan a holds 90; pan b holds 90; recipe q (again 9 (pour 9 water into a; pour 9 meal into b;"
        + "heat a to boiling; heat b to 999; boil a for 9; boil b for 9; empty a; rest 9; note ((((1+2)*3)-4)/minute);))"
        + "recipe r (again 99 (if 1=1 and 2=2 (cook q;) else (cook q;)))";

    private interface Part {
        void run();
    }

    public static void main(String[] args) {
        if (!THREADS.isThreadAllocatedMemorySupported() || !THREADS.isThreadAllocatedMemoryEnabled()) {
            System.out.println("this Java does not tell what is allocated");
            return;
        }
        callsTakeNoRoom();
        manyShortBooks();
        fewLongBooks();
        Check.done();
    }

    private static long allocated(Part part) {
        part.run();
        long before = THREADS.getThreadAllocatedBytes(Thread.currentThread().getId());
        part.run();
        return THREADS.getThreadAllocatedBytes(Thread.currentThread().getId()) - before;
    }

    private static void atMost(String what, long got, long most) {
        Check.due(what + " takes " + got + " bytes, at most " + most, got <= most ? 1 : 0, 1);
    }

    private static void callsTakeNoRoom() {
        HighRecipes x = Check.with(DEAR);
        atMost("cooking and what would be", allocated(() -> {
            for (int i = 0; i < CALLS / 8; i++) {
                x.cook(i % 2);
                x.minutesOfRecipe(1);
                x.warningsOfRecipe(1);
                x.firstWarning(1);
                x.doneBehind(1, 1);
                x.highestSafe(1);
                x.mostServings(1);
                x.digest();
            }
        }), AS_GOOD_AS_NOTHING);
        atMost("what is done by hand", allocated(() -> {
            for (int i = 0; i < CALLS / 8; i++) {
                x.setAltitude(i % 61);
                x.pourWater(0, 9);
                x.pourMeal(1, 9);
                x.rest(9);
                x.wash(0);
                x.meanHeat();
                x.feed(0, 0, 0, 0, 0);
                x.trim(0);
            }
        }), AS_GOOD_AS_NOTHING);
    }

    private static void manyShortBooks() {
        atMost("an object that is taught again and again", allocated(() -> {
            HighRecipes x = new HighRecipes();
            for (int i = 0; i < CALLS / 2; i++) {
                // "recipe r(note (1+1);"
                x.feed(0x72656369, 0x70652072, 0x286e6f74, 0x65202831, 0x2b31293b);
                x.teach();
            }
        }), PART_OF_THE_ROOM);
    }

    private static void fewLongBooks() {
        byte[] book = ("recipe r (if 1=1" + " and 1=1".repeat(96) + " () note 1;note 1;)").getBytes();
        atMost("an object that is taught long books", allocated(() -> {
            HighRecipes x = new HighRecipes();
            for (int i = 0; i < CALLS / (book.length / 20 + 2); i++) {
                Check.type(x, book);
                Check.due("teach of a long book", x.teach(), 0);
            }
        }), PART_OF_THE_ROOM);
    }
}
