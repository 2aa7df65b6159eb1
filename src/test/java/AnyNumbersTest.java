import java.lang.reflect.InvocationTargetException;
import java.lang.reflect.Method;
import java.lang.reflect.Modifier;
import java.util.ArrayList;
import java.util.Arrays;
import java.util.Comparator;
import java.util.List;
import java.util.Map;
import java.util.Random;

// Any numbers in any state (rule 7 of ../shared/LANGUAGE.md): no call throws, and each answers
// within what the document lets it answer. Runs of 512 calls (always the same ones), of which
// the numbers are just inside, just outside and far off what they may be.
public final class AnyNumbersTest {
    private static final int OBJECTS = 1200;
    private static final int CALLS = 512;
    private static final int[] NUMBERS = {
        Integer.MIN_VALUE, Integer.MIN_VALUE + 1, -858993459, -65536, -1000000, -256, -33, -32, -10, -9, -3, -2, -1,
        0, 1, 2, 3, 4, 5, 6, 7, 8, 9, 10, 11, 19, 20, 21, 30, 31, 32, 33, 63, 64, 127, 128, 255, 256, 299, 300, 301,
        65535, 65536, 858993460, 1 << 30, Integer.MAX_VALUE - 1, Integer.MAX_VALUE,
    };
    private static final String[] TEXTS = {
        "house 9 9 9 9 9;house 1 2 3 4 5;house 0 0 0 0 0;dish 1 0 0 0 0 1 1;dish 0 0 0 0 0 7 3;dish 9 9 9 9 9 2 2;fog 3;",
        "house 5 5 5 5 5;".repeat(6) + "dish 1 1 0 1 0 3 5;".repeat(8) + "fog 5;",
        "house 1 1 1 1 1;fog 2;", "dish 0 1 2 3 4 5 6;dish 9 9 9 9 9 7 7;fog 1;", "fog 5;", "", "house 1 2 3 4 5;house 1 2 3 4", "fog 6;",
    };

    // The least and the most that a call may answer.
    private static final Map<String, long[]> ANSWERS = Map.ofEntries(
        answers("type", -3, 300), answers("clear", 0, 300), answers("valley", -310, 15),
        answers("house", -1, 45), answers("dish", -1, 45), answers("cook", -3, 7), answers("undo", -2, 19),
        answers("gives", -3, 9), answers("burns", -1, 45), answers("plume", -1, 7), answers("fog", -1, 5),
        answers("says", -9, 135), answers("nearest", -1, 7), answers("reads", -1, 1000), answers("means", -9, 7),
        answers("chain", -1, 1000000000000L), answers("who", -2, 48000), answers("days", -1, 30),
        answers("code", -9, 255), answers("feast", -9, 7), answers("silent", -1, 63), answers("drawn", -1, 7),
        answers("lot", Integer.MIN_VALUE, Integer.MAX_VALUE), answers("mark", -1000000, 97), answers("keep", -1, 20),
        answers("back", -2, 20), answers("count", -1, 300), answers("trace", 0, 512L * 100001));

    private static Map.Entry<String, long[]> answers(String call, long least, long most) {
        return Map.entry(call, new long[] {least, most});
    }

    public static void main(String[] args) throws Exception {
        Random random = new Random(7);
        Method[] calls = face();
        Checks.due("calls of the face", calls.length, ANSWERS.size());
        for (int i = 0; i < OBJECTS && !Checks.anyWrong(); i++) run(random, calls, TEXTS[i % TEXTS.length], i % 3);
        Checks.end();
    }

    private static Method[] face() {
        List<Method> calls = new ArrayList<>();
        for (Method m : SmokeTalk.class.getDeclaredMethods()) {
            if (Modifier.isPublic(m.getModifiers())) calls.add(m);
        }
        calls.sort(Comparator.comparing(Method::getName));
        return calls.toArray(new Method[0]);
    }

    // The wilder the run, the more of its numbers are any; the others are small.
    private static void run(Random random, Method[] calls, String text, int wild) throws Exception {
        SmokeTalk x = new SmokeTalk();
        Checks.type(x, text);
        x.valley();
        for (int i = (text.length() + 7) / 8 + 1; i < CALLS; i++) {
            Method call = calls[random.nextInt(calls.length)];
            boolean emptiesAll = call.getName().equals("valley") || call.getName().equals("burns");
            if (emptiesAll && random.nextInt(60) != 0) continue;
            Object[] numbers = new Object[call.getParameterCount()];
            for (int p = 0; p < numbers.length; p++) {
                int n = random.nextInt(4) < wild ? NUMBERS[random.nextInt(NUMBERS.length)] : random.nextInt(4);
                numbers[p] = call.getParameterTypes()[p] == long.class ? (Object) ((long) n << random.nextInt(33)) : (Object) n;
            }
            ask(x, call, numbers);
        }
    }

    private static void ask(SmokeTalk x, Method call, Object[] numbers) throws Exception {
        String name = call.getName() + Arrays.toString(numbers);
        try {
            long answer = ((Number) call.invoke(x, numbers)).longValue();
            long[] may = ANSWERS.get(call.getName());
            Checks.holds(name + " answered " + answer, answer >= may[0] && answer <= may[1]);
        } catch (InvocationTargetException thrown) {
            Checks.holds(name + " threw " + thrown.getCause(), false);
        }
    }
}
