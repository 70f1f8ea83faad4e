import java.lang.reflect.InvocationTargetException;
import java.lang.reflect.Method;
import java.lang.reflect.Modifier;
import java.util.ArrayList;
import java.util.Comparator;
import java.util.List;
import java.util.NoSuchElementException;
import java.util.Random;

/** Every call with arguments of all sizes, in states of all kinds: none throws but air() and witness(). */
public final class AnyArgumentsTest {
    private static final int RUNS = 120;
    private static final int CALLS = 512;
    private static final int[] EDGES = {Integer.MIN_VALUE, Integer.MIN_VALUE + 1, -1000000, -61, -2, -1, 0, 1, 2, 5, 6, 7, 8,
        40, 60, 61, 255, 256, 940, 999, 1000, 1 << 28, 1 << 30, 715827882, 715827883, Integer.MAX_VALUE - 5,
        Integer.MAX_VALUE};

    private AnyArgumentsTest() {
    }

    public static void main(String[] args) throws IllegalAccessException {
        Check check = new Check("AnyArgumentsTest");
        List<Method> face = new ArrayList<>();
        for (Method method : ScentCourt.class.getDeclaredMethods()) {
            if (Modifier.isPublic(method.getModifiers())) {
                face.add(method);
            }
        }
        face.sort(Comparator.comparing(Method::getName));
        check.same("methods of the face", face.size(), 47);
        for (int run = 0; run < RUNS; run++) {
            play(check, face, new Random(run));
        }
        check.end();
    }

    private static void play(Check check, List<Method> face, Random random) throws IllegalAccessException {
        ScentCourt court = new ScentCourt();
        Texts texts = new Texts(random);
        for (int call = 0; call < CALLS; call++) {
            switch (random.nextInt(12)) {
                case 0: Check.tape(court, noise(random)); break;
                case 1:
                    if (random.nextInt(8) == 0) {
                        Check.tape(court, texts.hill(random.nextInt(7), random.nextInt(7), random.nextInt(7)));
                        court.hill();
                    }
                    break;
                case 2: court.send(random.nextInt(6), random.nextInt(3)); break;
                case 3: court.on(1 + random.nextInt(60)); break;
                default: callOne(check, face.get(random.nextInt(face.size())), court, random);
            }
        }
    }

    private static byte[] noise(Random random) {
        byte[] bytes = new byte[random.nextInt(random.nextInt(3) == 0 ? 920 : 9)];
        for (int i = 0; i < bytes.length; i++) {
            bytes[i] = (byte) (random.nextBoolean() ? random.nextInt(256) : "not (own) at p;scent".charAt(i % 20));
        }
        return bytes;
    }

    private static void callOne(Check check, Method method, ScentCourt court, Random random) throws IllegalAccessException {
        Object[] args = new Object[method.getParameterCount()];
        for (int i = 0; i < args.length; i++) {
            args[i] = random.nextInt(3) == 0 ? EDGES[random.nextInt(EDGES.length)] : random.nextInt(7);
        }
        boolean mayThrow = method.getName().equals("air") || method.getName().equals("witness");
        boolean right = true;
        try {
            method.invoke(court, args);
        } catch (InvocationTargetException e) {
            right = mayThrow && e.getCause().getClass() == NoSuchElementException.class;
        }
        check.same(method.getName() + java.util.Arrays.toString(args) + " throws nothing else", right, true);
    }
}
