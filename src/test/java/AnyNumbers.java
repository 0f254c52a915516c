import java.lang.reflect.InvocationTargetException;
import java.lang.reflect.Method;
import java.lang.reflect.Modifier;
import java.util.Arrays;
import java.util.Comparator;
import java.util.Random;

/**
 * Every call with any numbers, in the empty state, in full ones and in ones that can't be: none
 * throws, each answers within what the document can answer, and the same calls answer the same.
 */
public final class AnyNumbers extends Desk {
    private static final int[] NUMBERS = {Integer.MIN_VALUE, Integer.MIN_VALUE + 1, -1000000, -401, -33, -3, -2, -1, 0, 1,
        2, 3, 4, 5, 6, 7, 11, 12, 13, 15, 16, 23, 24, 31, 32, 33, 34, 98, 99, 100, 380, 399, 400, 401, 9999, 10000,
        1000000, 1000001, 0x01010101, 0x20202020, Integer.MAX_VALUE - 1, Integer.MAX_VALUE};
    private static final int RUNS = 300;
    private static final int CALLS = 512;

    public static void main(String[] args) throws Exception {
        Method[] face = face();
        for (int run = 0; run < RUNS; run++) {
            at("rule 7: no call may ever throw, run " + run);
            long first = play(face, run);
            at("rule 13: the same calls give the same answers, run " + run);
            due("all answers together", play(face, run), first);
        }
        finish();
    }

    private static Method[] face() {
        return Arrays.stream(WeekFoot.class.getDeclaredMethods())
                .filter(m -> Modifier.isPublic(m.getModifiers()))
                .sorted(Comparator.comparing(Method::getName))
                .toArray(Method[]::new);
    }

    private static WeekFoot start(int run) {
        switch (run % 5) {
            case 0: return new WeekFoot();
            case 1: return withEntries(24);
            case 2: return withSixShorter();
            case 3: return written("week 0 to 31 by 0;thing 0 in 0 is 5,in 0 is 6;thing 1 cut in 9;thing 1 in 9 is 1 half");
            default: return written("week 0 by 0;week 1 by 1;week 2 by 2;week 3 by 3;thing 0 in 0 is 1 half,in 1 is 99;"
                    + "thing 1 in 1 is 1 half,in 2 is 99 whole;thing 2 in 2 is 1 half,in 3 is 99 half;thing 3 in 0 is 99");
        }
    }

    private static long play(Method[] face, int run) throws Exception {
        Random random = new Random(run);
        WeekFoot x = start(run);
        long all = 0;
        for (int i = 0; i < CALLS - 60; i++) {
            Method call = face[random.nextInt(face.length)];
            Object[] numbers = new Object[call.getParameterCount()];
            for (int n = 0; n < numbers.length; n++) {
                boolean isSmall = random.nextInt(3) > 0;
                numbers[n] = isSmall ? random.nextInt(18) - 2 : NUMBERS[random.nextInt(NUMBERS.length)];
            }
            all = 31 * all + answer(x, call, numbers);
        }
        return all;
    }

    private static long answer(WeekFoot x, Method call, Object[] numbers) throws IllegalAccessException {
        String told = call.getName() + Arrays.toString(numbers);
        try {
            long answer = ((Number) call.invoke(x, numbers)).longValue();
            due(told + " is below all that can be answered", answer < -6 ? 1 : 0, 0);
            boolean isPart = call.getName().equals("part");
            due(told + " is above all that can be answered", !isPart && answer > 2000000000 ? 1 : 0, 0);
            return answer;
        } catch (InvocationTargetException thrown) {
            due(told + " threw " + thrown.getCause(), 1, 0);
            return 0;
        }
    }
}
