import java.lang.reflect.InvocationTargetException;
import java.lang.reflect.Method;
import java.util.ArrayList;
import java.util.List;
import java.util.NoSuchElementException;
import java.util.Random;

/** Runs of calls drawn by fixed seeds: each answer of ScentCourt is held against the Oracle's. */
public final class OracleTest {
    private static final int RUNS = 260;
    private static final String[] LOOKS = {"air", "fade", "witness", "coat", "cloth", "box", "opened", "remains", "rows",
        "first", "changeAt", "dog", "unlike", "alike", "kitchen", "thread", "source", "strangers", "wearer", "clean",
        "weather", "write", "byteAt", "said", "count", "fault"};

    private final Check check;
    private final int run;
    private final Random random;
    private final Texts texts;
    private final ScentCourt court = new ScentCourt();
    private final Oracle oracle = new Oracle();
    private final List<String> done = new ArrayList<>();
    private String hill = "";
    private int calls = 0;

    private OracleTest(Check check, int run) {
        this.check = check;
        this.run = run;
        this.random = new Random(run);
        this.texts = new Texts(random);
    }

    public static void main(String[] args) {
        Check check = new Check("OracleTest");
        for (int run = 0; run < RUNS && check.isAllRight(); run++) {
            new OracleTest(check, run).play();
        }
        check.end();
    }

    private static Method face(Class<?> from, String name) {
        for (Method method : from.getDeclaredMethods()) {
            if (method.getName().equals(name) && java.lang.reflect.Modifier.isPublic(method.getModifiers())) {
                return method;
            }
        }
        throw new IllegalStateException(name);
    }

    private static long answer(Object of, String name, Object... args) {
        try {
            Object answer = face(of.getClass(), name).invoke(of, args);
            return answer instanceof Boolean ? ((Boolean) answer ? 1 : 0) : (Integer) answer;
        } catch (InvocationTargetException e) {
            if (e.getCause() instanceof NoSuchElementException) {
                return Long.MIN_VALUE;
            }
            throw new IllegalStateException(name, e.getCause());
        } catch (IllegalAccessException e) {
            throw new IllegalStateException(e);
        }
    }

    private long call(String name, Object... args) {
        calls++;
        long due = answer(oracle, name, args);
        long got = answer(court, name, args);
        String told = name + java.util.Arrays.toString(args);
        done.add(told);
        if (got != due) {
            System.out.println("run " + run + ": " + done);
        }
        check.same("run " + run + ", " + told, got, due);
        return due;
    }

    private boolean goesOn() {
        return calls < 500 && check.isAllRight();
    }

    private void tape(byte[] bytes) {
        call("end", 0);
        for (int i = 0; i < bytes.length && i < 940; i += 20) {
            call("feed", Check.four(bytes, i), Check.four(bytes, i + 4), Check.four(bytes, i + 8),
                    Check.four(bytes, i + 12), Check.four(bytes, i + 16));
        }
        call("end", bytes.length);
    }

    private void play() {
        tellHill();
        boolean reads = run % 4 == 0;
        while (goesOn()) {
            int kind = random.nextInt(100);
            if (reads && kind < 80) {
                tellText();
                continue;
            }
            if (kind < 30) {
                act();
            } else if (kind < 75) {
                look();
            } else if (kind < 93) {
                search();
            } else if (kind < 96) {
                call(random.nextInt(3) > 0 ? "image" : "restore", small());
            } else if (kind < 97) {
                tellHill();
            } else {
                lookAtAll();
            }
        }
    }

    private void tellText() {
        int kind = random.nextInt(3);
        if (kind == 0) {
            tellHill();
        } else if (kind == 1) {
            plead();
        } else {
            say();
        }
    }

    private int some(int mostThings) {
        return random.nextInt(1 + random.nextInt(mostThings));
    }

    private int small() {
        int kind = random.nextInt(40);
        if (kind == 0) {
            return new int[] {Integer.MIN_VALUE, Integer.MAX_VALUE, -2, 99, 1 << 29}[random.nextInt(5)];
        }
        return random.nextInt(kind < 30 ? 3 : 9) - (kind == 1 ? 1 : 0);
    }

    private Object[] smalls(String name) {
        Object[] args = new Object[face(Oracle.class, name).getParameterCount()];
        for (int i = 0; i < args.length; i++) {
            args[i] = small();
        }
        return args;
    }

    private void tellHill() {
        boolean rich = random.nextInt(5) > 0;
        int least = rich ? 2 : 0;
        boolean reads = run % 4 == 0;
        int most = reads && random.nextInt(4) == 0 ? 8 : 7;
        do {
            hill = texts.hill(least + some(most - least), least + some(most - least), least + random.nextInt(most - least));
        } while (hill.length() > 940);
        String told = hill;
        int kind = random.nextInt(reads ? 3 : 12);
        if (kind == 0) {
            told = texts.spoilt(told);
        } else if (kind == 1) {
            told = texts.stretched(told, 900);
        }
        tape(Check.bytes(told.substring(0, Math.min(940, told.length()))));
        call("hill");
        call("fault");
        if (told != hill && random.nextInt(10) > 0) {
            tape(Check.bytes(hill));
            call("hill");
        }
    }

    private void act() {
        String name = new String[] {"goes", "goes", "change", "change", "soap", "send", "send", "send", "move", "on", "on",
            "on", "on", "undo", "drawn"}[random.nextInt(15)];
        if (name.equals("on") && random.nextInt(12) > 0) {
            call(name, 1 + random.nextInt(random.nextInt(8) == 0 ? 60 : 4));
        } else if (name.equals("drawn") && random.nextInt(12) > 0) {
            call(name, 1 + random.nextInt(random.nextInt(8) == 0 ? 60 : 4), random.nextInt());
        } else {
            call(name, smalls(name));
        }
    }

    private void look() {
        String name = LOOKS[random.nextInt(LOOKS.length)];
        call(name, smalls(name));
    }

    private void lookAtAll() {
        for (int a = 0; a < 6 && goesOn(); a++) {
            call("coat", a, random.nextInt(6));
            call("cloth", a, random.nextInt(6));
            call("witness", a, random.nextInt(5));
            call("said", a - 1);
            call("clean", a);
        }
        long length = call("write", random.nextInt(6));
        for (int i = 0; i <= length && goesOn(); i++) {
            call("byteAt", i);
        }
    }

    private void search() {
        switch (random.nextInt(8)) {
            case 0: call("order"); call("opened", small()); break;
            case 1: call("noses"); break;
            case 2: openRow(); break;
            case 3: findWas(); break;
            case 4: findChanged(); break;
            case 5: plead(); break;
            case 6: call("odds", small(), 1 + random.nextInt(40), random.nextInt()); call("odds", smalls("odds")); break;
            default: say();
        }
    }

    private void openRow() {
        int[] row = new int[random.nextInt(4)];
        for (int i = 0; i < row.length; i++) {
            row[i] = random.nextInt(10) == 0 ? random.nextInt(256) : random.nextInt(Math.max(1, court.count(5)));
        }
        tape(Check.bytes(row));
        call("drowned");
        for (int s = 0; s < 4; s++) {
            call("remains", s);
        }
    }

    private void findWas() {
        int n = 1 + random.nextInt(random.nextInt(4) == 0 ? 6 : 4);
        int w = random.nextInt(Math.max(1, court.count(2)));
        ScentCourt other = new ScentCourt();
        Check.hill(other, hill.replaceAll("(rain|went)[^;]*;", ""));
        int places = Math.max(1, other.count(1));
        for (int i = 0; i < n; i++) {
            other.goes(w, random.nextInt(places));
            other.on(1);
        }
        int[] told = new int[court.count(0) + (random.nextInt(10) == 0 ? 1 : 0)];
        for (int s = 0; s < told.length; s++) {
            told[s] = Math.max(0, other.coat(w, s)) + (random.nextInt(12) == 0 ? 1 : 0);
        }
        tape(Check.bytes(told));
        call("was", random.nextInt(12) == 0 ? small() : w, random.nextInt(12) == 0 ? small() : n);
        for (int hour = 1; hour <= n; hour++) {
            call("rows", hour, random.nextInt(places));
            call("first", hour);
        }
        call("rows", smalls("rows"));
        call("first", smalls("first"));
    }

    private void findChanged() {
        int hours = court.count(4);
        int people = court.count(2);
        if (people > 3 && hours > 12) {
            return;
        }
        ScentCourt other = new ScentCourt();
        Check.hill(other, hill);
        int ahead = hours == 0 ? 0 : random.nextInt(hours);
        for (int hour = 0; hour < hours; hour++) {
            if (hour == ahead) {
                other.change(random.nextInt(Math.max(1, people)), random.nextInt(Math.max(1, people)));
            }
            other.on(1);
        }
        int[] told = new int[people * court.count(0)];
        for (int i = 0; i < told.length; i++) {
            int scents = court.count(0);
            told[i] = Math.max(0, other.coat(i / scents, i % scents)) + (random.nextInt(40) == 0 ? 1 : 0);
        }
        tape(Check.bytes(told));
        call("changed");
        call("changeAt", 0);
        call("changeAt", 1);
        call("changeAt", 39 + random.nextInt(2));
        call("changeAt", smalls("changeAt"));
    }

    private void plead() {
        String text = texts.pleas(random.nextInt(6) == 0 ? 33 : 3);
        int kind = random.nextInt(5);
        text = kind == 0 ? texts.spoilt(text) : kind == 1 ? texts.stretched(text, 300) : text;
        tape(Check.bytes(text.substring(0, Math.min(940, text.length()))));
        call("pleas");
        call("fault");
    }

    private void say() {
        String text = texts.sentence(random.nextInt(6) == 0 ? 9 : 2);
        int kind = random.nextInt(5);
        text = kind == 0 ? texts.spoilt(text) : kind == 1 ? texts.stretched(text, 200) : text;
        tape(Check.bytes(text.substring(0, Math.min(940, text.length()))));
        call("sentence");
        call("fault");
        for (int k = -2; k < 4; k++) {
            call("said", k);
        }
    }
}
