import java.lang.management.ManagementFactory;

/**
 * All calls of a run share one room: merging makes nothing, and a run that does the most that 512
 * calls can do stays far below the room's 600,000 objects (here counted as bytes).
 */
public final class RoomTests {
    private static final com.sun.management.ThreadMXBean THREADS =
            (com.sun.management.ThreadMXBean) ManagementFactory.getThreadMXBean();
    private static final long THREAD = Thread.currentThread().getId();

    public static void main(String[] args) {
        MergeDesk desk = new MergeDesk();
        Check.table(desk, "t a b");
        for (int i = 0; i < 16; i++) {
            Check.record(desk, 0, i + ";word");
        }
        mergingMakesNothing(desk, "{each t}{each t a=a}{each t}{let x=eq(b,'word')+pct(a*100,19)}{x:2>9}{end}{end}{end}");
        mergingMakesNothing(desk, "{each t}{each t}{each t}{''}{-(-(max(a,count(t),sum(t,a),len(b))))}{end}{end}{end}");
        mergingMakesNothing(desk, "{each t}{if lt(a,8)}{b<20}{else}{div(a,2)>20}{end}{end}");
        aWholeRunIsSmall("{{x".repeat(166));
        aWholeRunIsSmall("{1" + "+1".repeat(240) + "}");
        aWholeRunIsSmall("{'a'}".repeat(100));
        Check.end();
    }

    private static void mergingMakesNothing(MergeDesk desk, String template) {
        Check.due("compile " + template, 0, Check.compile(desk, template));
        int answer = desk.merge();
        long before = THREADS.getThreadAllocatedBytes(THREAD);
        boolean isSame = true;
        for (int i = 0; i < 50; i++) {
            isSame &= desk.merge() == answer;
        }
        long made = THREADS.getThreadAllocatedBytes(THREAD) - before;
        Check.due("the same answer each time", true, isSame);
        Check.due("fifty merges make next to nothing, not " + made + " bytes", true, made < 4096);
    }

    /** The template typed and compiled as often as 512 calls allow; the typing itself makes nothing. */
    private static void aWholeRunIsSmall(String template) {
        long before = THREADS.getThreadAllocatedBytes(THREAD);
        MergeDesk desk = new MergeDesk();
        int answers = 0;
        for (int calls = 0; calls + 64 < 512; calls += 64) {
            answers += typeAndCompile(desk, template);
        }
        long made = THREADS.getThreadAllocatedBytes(THREAD) - before;
        Check.due("compiles " + template, 0, answers);
        Check.due("a run makes less than a megabyte, not " + made, true, made < 1_000_000);
    }

    private static int typeAndCompile(MergeDesk desk, String template) {
        for (int from = 0; from < template.length(); from += 8) {
            int n = Math.min(8, template.length() - from);
            desk.type(Check.packed(template, from, n), n);
        }
        return desk.compile();
    }
}
