import java.util.ArrayList;
import java.util.List;
import java.util.function.Consumer;
import java.util.function.ToLongFunction;

/** A refused call: what it answers, and that it leaves all as a twin without that call is, but how many there were. */
final class Refused {
    private Refused() {
    }

    static void with(int number, Consumer<EarPaper> scene, ToLongFunction<EarPaper> call) {
        as(number, number, scene, call);
    }

    static void as(long answer, int number, Consumer<EarPaper> scene, ToLongFunction<EarPaper> call) {
        EarPaper x = new EarPaper();
        scene.accept(x);
        EarPaper twin = new EarPaper();
        scene.accept(twin);
        int before = x.count(10 - number);
        Edge.is(call.applyAsLong(x), answer);
        Edge.is(x.count(10 - number), before + 1);
        Edge.is(twin.count(10 - number), before);
        Edge.is(0, others(Look.at(x), Look.at(twin), "count " + (10 - number) + " "));
    }

    /** How many lines tell something else; what begins like the last may. */
    private static int others(List<String> got, List<String> due, String free) {
        List<String> off = new ArrayList<>();
        for (int i = 0; i < got.size() && i < due.size(); i++) {
            if (!got.get(i).equals(due.get(i)) && !got.get(i).startsWith(free)) {
                off.add(got.get(i) + ", due is " + due.get(i));
            }
        }
        if (!off.isEmpty()) {
            System.out.println("a refused call has changed: " + off);
        }
        return off.size() + Math.abs(got.size() - due.size());
    }
}
