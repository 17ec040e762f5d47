import java.lang.reflect.Method;
import java.lang.reflect.Modifier;
import java.util.ArrayList;
import java.util.Arrays;
import java.util.List;
import java.util.Map;
import java.util.Set;
import java.util.stream.Collectors;

/**
 * A run of calls on a new object, for one sentence of the document. After each call state() is
 * asked too; and when the run ends, the object must be as if only the calls that were not refused
 * had been made.
 */
final class Run {
    // Each call is followed by state(), and an object is used for at most 512 calls.
    private static final int MOST_CALLS = 150;
    private static final int MOST_LOOKS = 100;
    private static final Set<String> REFUSED_AS_ZERO = Set.of("read", "cell", "heard");
    private static final Map<String, Method> METHODS = Arrays.stream(MusicBoxes.class.getDeclaredMethods())
        .filter(method -> Modifier.isPublic(method.getModifiers()))
        .collect(Collectors.toMap(Method::getName, method -> method));

    private final Due due;
    private final String sentence;
    private final MusicBoxes x = new MusicBoxes();
    private final List<Call> asked = new ArrayList<>();
    private final List<Call> done = new ArrayList<>();

    Run(Due due, String sentence) {
        this.due = due;
        this.sentence = sentence;
    }

    /** A call that is done, and what it answers. */
    void is(long want, String name, int... args) {
        Call call = new Call(name, args);
        asked.add(call);
        done.add(call);
        due.is(told(call), call.on(x), want);
        due.is("state() after " + told(call), x.state(), 0);
    }

    /** A call that is refused. That state() tells it twice shows that state() is no call of its own. */
    void refused(int why, String name, int... args) {
        Call call = new Call(name, args);
        asked.add(call);
        due.is(told(call), call.on(x), REFUSED_AS_ZERO.contains(name) ? 0 : why);
        due.is("state() after " + told(call), x.state(), why);
        due.is("state() again after " + told(call), x.state(), why);
    }

    void end() {
        due.is(sentence + ": the run is short enough", asked.size() <= MOST_CALLS ? 1 : 0, 1);
        if (asked.size() == done.size()) {
            return;
        }
        MusicBoxes all = made(asked);
        MusicBoxes some = made(done);
        int looked = 0;
        for (Call look : looks()) {
            due.is(told(look) + " after what was refused", look.on(all), look.on(some));
            due.is(told(look) + " after what was refused, state()", all.state(), some.state());
            looked++;
            // A look that was refused would itself hide what refusals do, so the next one is on new objects.
            if (looked == MOST_LOOKS || some.state() != 0) {
                all = made(asked);
                some = made(done);
                looked = 0;
            }
        }
    }

    private String told(Call call) {
        return sentence + ": " + call.name() + Arrays.toString(call.args());
    }

    private static MusicBoxes made(List<Call> calls) {
        MusicBoxes made = new MusicBoxes();
        for (Call call : calls) {
            call.on(made);
        }
        return made;
    }

    /** Every call that only looks, for all that there is when the run is over. */
    private List<Call> looks() {
        List<Call> looks = new ArrayList<>();
        for (int drum = 0; drum < 8; drum++) {
            for (int what = 0; what < 7; what++) {
                looks.add(new Call("heard", drum, what));
            }
        }
        for (int c = 0; c < 4; c++) {
            for (int what = 0; what < 4; what++) {
                looks.add(new Call("about", c, what));
            }
        }
        looksAtTracks(looks);
        looksAtTeeth(looks);
        return looks;
    }

    private void looksAtTracks(List<Call> looks) {
        MusicBoxes made = made(done);
        for (int drum = 0; drum < 8; drum++) {
            for (int kind = 0; kind < 5; kind++) {
                looks.add(new Call("places", drum, kind));
                int places = made.places(drum, kind);
                for (int k = 0; k < places; k++) {
                    looks.add(new Call("read", drum, kind, k));
                }
            }
        }
    }

    private void looksAtTeeth(List<Call> looks) {
        MusicBoxes made = made(done);
        for (int c = 0; c < 4; c++) {
            int teeth = made.about(c, 1);
            for (int tooth = 0; tooth < teeth; tooth++) {
                // No call that only looks tells how many places a tooth has.
                int places = made.fit(c, tooth, 0);
                for (int k = 0; k <= places; k++) {
                    looks.add(new Call("cell", c, tooth, k));
                }
            }
        }
    }

    private record Call(String name, int... args) {
        long on(MusicBoxes x) {
            Method method = METHODS.get(name);
            if (method == null) {
                throw new IllegalStateException("the class has no " + name);
            }
            return answer(method, x);
        }

        private long answer(Method method, MusicBoxes x) {
            Object[] boxed = Arrays.stream(args).boxed().toArray();
            try {
                return ((Number) method.invoke(x, boxed)).longValue();
            } catch (ReflectiveOperationException e) {
                throw new IllegalStateException(name + Arrays.toString(args) + " threw", e);
            }
        }
    }
}
