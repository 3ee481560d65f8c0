import java.lang.management.ManagementFactory;
import java.util.LinkedHashMap;
import java.util.Map;
import java.util.function.ToIntFunction;

/** All calls of a run live in one room: calls make no objects, but for an IMAGE's first keep. */
public final class RoomTest {
    private static final Check CHECK = new Check("RoomTest");
    private static final int TIMES = 200;
    // Less than one object a call, which has 16 bytes at least.
    private static final int FEW_BYTES = TIMES * 8;

    public static void main(String[] args) {
        if (!(ManagementFactory.getThreadMXBean() instanceof com.sun.management.ThreadMXBean counter)
                || !counter.isThreadAllocatedMemorySupported()) {
            CHECK.due("this machine does not count what is made", 0, 0);
            CHECK.finish();
            return;
        }
        counter.setThreadAllocatedMemoryEnabled(true);
        for (Map.Entry<String, ToIntFunction<StitchSays>> call : calls().entrySet()) {
            StitchSays x = Twins.full();
            x.keep(2);
            ToIntFunction<StitchSays> deed = call.getValue();
            deed.applyAsInt(x);
            long before = counter.getThreadAllocatedBytes(Thread.currentThread().getId());
            for (int n = 0; n < TIMES; n++) {
                deed.applyAsInt(x);
            }
            long made = counter.getThreadAllocatedBytes(Thread.currentThread().getId()) - before;
            CHECK.due(call.getKey() + " makes nothing (" + made + " bytes)", made < FEW_BYTES ? 0 : made, 0);
        }
        CHECK.finish();
    }

    private static Map<String, ToIntFunction<StitchSays>> calls() {
        Map<String, ToIntFunction<StitchSays>> calls = new LinkedHashMap<>();
        calls.put("feed", x -> x.feed(1, 2, 3, 4, 5) + x.end(0));
        calls.put("pattern", x -> feedPattern(x) + x.pattern() + x.knit(0, 1) + x.knit(1, 2));
        calls.put("hand", x -> x.hand());
        calls.put("way", x -> x.feed(0x77617920, 0x6f766572, 0x20666d20, 0x67756172, 0x6420333b) + x.way(2));
        calls.put("watcher", x -> x.feed(0x73746f70, 0x20696620, 0x31207361, 0x6d652031, 0x3b202020) + x.watcher());
        calls.put("losses", x -> x.feed(0x6d6f7468, 0x20332066, 0x726f6d20, 0x323b7761, 0x73683b20) + x.losses());
        calls.put("fault", x -> x.fault(0) + x.fault(1));
        calls.put("knit", x -> x.knit(0, 77));
        calls.put("put", x -> x.feed(0x61620000, 0, 0, 0, 0) + x.end(2) + x.put(0, 0));
        calls.put("read", x -> x.read(0, 0) + x.letter(0));
        calls.put("bit", x -> x.bit(0, 0, 3) + x.dim(0, 0) + x.says(0));
        calls.put("at", x -> x.at(0, 0, 0) + x.sort(0, 0));
        calls.put("place", x -> x.place(0, 3) + x.room(0) + x.most(0));
        calls.put("counts", x -> x.counts(0, 4) + x.stops(0));
        calls.put("odds", x -> x.odds(0, 50));
        calls.put("carries", x -> x.carries(0, 0, 50));
        calls.put("best", x -> x.best(0));
        calls.put("lose", x -> x.lose(0));
        calls.put("alike", x -> x.alike(0, 1) + x.same(0, 1, 0));
        calls.put("ball", x -> x.ball(0, 9));
        calls.put("rewind", x -> x.rewind(1, 0));
        calls.put("copy", x -> x.copy(0, 2));
        calls.put("turn", x -> x.turn(0, 0, 0));
        calls.put("mend", x -> x.mend(0));
        calls.put("count", x -> x.count(6));
        calls.put("keep", x -> x.keep(0) + x.keep(1) + x.keep(2));
        calls.put("back", x -> x.back(0) + x.back(1) + x.back(2));
        calls.put("row", x -> x.row(0, 0, 60) + x.row(1, 3, 60));
        calls.put("write", x -> x.write(0, 0, 5));
        calls.put("paste", x -> x.paste(0, 0, 1, 0, 2));
        calls.put("lay", x -> x.lay(0, 0));
        return calls;
    }

    /** wide 2 rows 3;row f; */
    private static int feedPattern(StitchSays x) {
        x.end(0);
        return x.feed(0x77696465, 0x20322072, 0x6f777320, 0x333b726f, 0x7720663b);
    }
}
