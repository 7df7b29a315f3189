import java.lang.management.ManagementFactory;
import java.util.function.ToLongFunction;

/** LANGUAGE.md, rule 12: what a run makes is kept small, however dear its calls are. */
public final class RoomTest {
    /** An object takes 16 bytes at least and an element one, so these are below 600,000 objects and 7.3 million elements. */
    private static final long MOST_BYTES = 7_300_000;
    private static final int CALLS = 512;
    private static final String LAND = "tw331;tf900;ts212;td103;y20;c2;";
    private static long answers = 0;

    public static void main(String[] args) {
        dueRoom("allow", x -> x.allow(10));
        dueRoom("best", x -> x.best(0));
        dueRoom("bestDay", x -> x.bestDay(19));
        dueRoom("breaking", x -> x.breaking());
        dueRoom("more", x -> x.more(3));
        dueRoom("years", x -> x.years(20, 4, 10));
        dueRoom("fitting", x -> x.fitting(25));
        dueRoom("likely", x -> x.likely(25, 19, 3, 1));
        dueRoom("seeds", x -> x.seeds(20, 1));
        dueRoom("image", x -> x.image());
        dueRoom("on", x -> x.on());
        dueRoom("land", x -> x.letter('c') + x.letter('1') + x.letter(';') + x.land());
        dueRoom("stretches", x -> x.stretches() + x.stretch(19, 0) + x.earned() + x.pays() + x.byLaw(2));
        Check.holds("the calls answered", answers != 0);
        Check.end();
    }

    private static void dueRoom(String name, ToLongFunction<TaxedByLongest> call) {
        long before = bytes();
        TaxedByLongest x = new TaxedByLongest();
        for (int i = 0; i < LAND.length(); i++) {
            x.letter(LAND.charAt(i));
        }
        x.land();
        for (int i = 0; i < 20; i++) {
            x.row(9);
        }
        for (int i = 0; i < CALLS; i++) {
            answers += call.applyAsLong(x);
        }
        long made = bytes() - before;
        Check.holds(CALLS + " calls of " + name + " make " + made + " bytes", made <= MOST_BYTES);
    }

    private static long bytes() {
        return ((com.sun.management.ThreadMXBean) ManagementFactory.getThreadMXBean()).getThreadAllocatedBytes(Thread.currentThread().getId());
    }
}
