/** Random runs of calls: the class answers as Plain does, and what is asked changes nothing. */
public final class RandomTest {
    private static final int RUNS = 400;
    private static final int CALLS = 330;

    public static void main(String[] args) throws ReflectiveOperationException {
        int runs = args.length > 0 ? Integer.parseInt(args[0]) : RUNS;
        int from = args.length > 1 ? Integer.parseInt(args[1]) : 0;
        for (int seed = from; seed < from + runs; seed++) {
            new RandomRun(seed, CALLS).go();
        }
        Due.end();
    }
}
