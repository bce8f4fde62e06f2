import java.util.Map;
import java.util.TreeMap;

/** Compares runs of calls with what PlainFerry answers to them. */
public final class ModelTest {
    public static void main(String[] args) {
        int runs = args.length > 0 ? Integer.parseInt(args[0]) : 800;
        int first = args.length > 1 ? Integer.parseInt(args[1]) : 0;
        Map<String, Integer> seen = new TreeMap<>();
        int wrong = 0;
        for (int seed = first; seed < first + runs; seed++) {
            Duel duel = new Duel(seed);
            if (!duel.run()) {
                wrong++;
                if (wrong <= 3) {
                    System.out.println("seed " + seed + ": " + duel.fault + "\n" + duel.history);
                }
            }
            duel.seen.forEach((what, count) -> seen.merge(what, count, Integer::sum));
        }
        if (args.length > 0) {
            System.out.println(seen);
        }
        System.out.println("ModelTest: " + runs + " runs, " + wrong + " wrong");
        if (wrong > 0) {
            System.exit(1);
        }
    }
}
