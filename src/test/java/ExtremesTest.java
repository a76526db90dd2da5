import java.lang.reflect.InvocationTargetException;
import java.lang.reflect.Method;
import java.util.ArrayList;
import java.util.Comparator;
import java.util.List;
import java.util.Random;

/** No call throws, whatever it is given: wild arguments in all states that such runs come to. */
public final class ExtremesTest {
    private static final int[] WILD = {Integer.MIN_VALUE, Integer.MIN_VALUE + 1, -65536, -10, -9, -2, -1, 0, 1, 2, 3, 4, 5,
        7, 8, 9, 10, 11, 12, 13, 19, 20, 29, 30, 31, 32, 49, 50, 59, 60, 61, 62, 63, 64, 99, 100, 255, 300, 301, 799,
        800, 801, 999, 1000, 4095, 4096, 9999, 10000, 1 << 29, 1 << 30, Integer.MAX_VALUE - 1, Integer.MAX_VALUE};

    private ExtremesTest() {
    }

    public static void main(String[] args) throws IllegalAccessException {
        List<Method> methods = new ArrayList<>();
        for (Method m : PenSchool.class.getDeclaredMethods()) {
            if (java.lang.reflect.Modifier.isPublic(m.getModifiers())) {
                methods.add(m);
            }
        }
        methods.sort(Comparator.comparing(Method::getName));
        for (int run = 0; run < 400; run++) {
            Random lot = new Random(run);
            PenSchool x = run % 2 == 0 ? new PenSchool() : furnished();
            for (int i = 0; i < 400; i++) {
                call(x, methods.get(lot.nextInt(methods.size())), lot);
            }
        }
        Check.finish("ExtremesTest");
    }

    private static PenSchool furnished() {
        PenSchool x = Check.school("vowels ae; sign a 0 1; sign b 3 2; sign ab 5 3; sign c 7 1; phrase 8; sharp 2;");
        for (String row : new String[] {"a", "b", "ab", "abab", "cab", "p", "bbbbbbbbbb"}) {
            Check.term(x, row, 9);
        }
        Check.candidate(x, 3, "D");
        Check.candidate(x, 4, "BA");
        Check.policy(x, "when mind above 3 do short 1; when late above 9 do drop; when cost is 7 do rest 9;");
        Check.passage(x, 0, 1, 2, 3, 4, 6, 6, 0);
        x.dictate(2, 3);
        x.readBack();
        return x;
    }

    private static void call(PenSchool x, Method m, Random lot) throws IllegalAccessException {
        Object[] arguments = new Object[m.getParameterCount()];
        StringBuilder told = new StringBuilder(m.getName());
        for (int i = 0; i < arguments.length; i++) {
            int n = lot.nextInt(4) == 0 ? lot.nextInt(8) : WILD[lot.nextInt(WILD.length)];
            arguments[i] = m.getParameterTypes()[i] == boolean.class ? (Object) (n > 0) : (Object) n;
            told.append(' ').append(arguments[i]);
        }
        try {
            m.invoke(x, arguments);
        } catch (InvocationTargetException e) {
            Check.holds(told + " threw " + e.getCause(), false);
        }
        Check.holds("", true);
    }
}
