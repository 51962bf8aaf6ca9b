import java.lang.reflect.InvocationTargetException;
import java.lang.reflect.Method;
import java.lang.reflect.Modifier;
import java.util.Arrays;
import java.util.HashMap;
import java.util.Map;

/** One SnapHeaps and one Model that are called alike; tells where they answer otherwise. */
final class Both {
    static int wrong;

    private static final int MOST_CALLS = 512;

    private static final Map<String, Method> REAL = methods(SnapHeaps.class);
    private static final Map<String, Method> MODEL = methods(Model.class);

    private final SnapHeaps real = new SnapHeaps();
    private final Model model = new Model();
    private final StringBuilder story = new StringBuilder();
    private final String name;
    private int calls;
    boolean parted;

    Both(String name) {
        this.name = name;
    }

    private static Map<String, Method> methods(Class<?> of) {
        Map<String, Method> all = new HashMap<>();
        for (Method m : of.getDeclaredMethods()) {
            if (!Modifier.isPublic(m.getModifiers())) {
                continue;
            }
            m.setAccessible(true);
            all.put(m.getName() + m.getParameterCount(), m);
        }
        return all;
    }

    private static String answer(Method m, Object on, Object[] args) {
        try {
            return String.valueOf(m.invoke(on, args));
        } catch (InvocationTargetException e) {
            return "throws." + e.getCause().getClass().getSimpleName();
        } catch (IllegalAccessException e) {
            return "no access";
        }
    }

    /** What an object answers behind its 512th call is free. */
    int callsLeft() {
        return MOST_CALLS - calls;
    }

    /** Calls both; answers what the Model did. */
    String call(String method, int... args) {
        calls++;
        if (calls > MOST_CALLS) {
            throw new IllegalStateException("a test with more than 512 calls of one object");
        }
        Object[] boxed = new Object[args.length];
        StringBuilder told = new StringBuilder(method).append('(');
        for (int i = 0; i < args.length; i++) {
            boxed[i] = args[i];
            told.append(i == 0 ? "" : ", ").append(args[i]);
        }
        told.append(')');
        String due = answer(MODEL.get(method + args.length), model, boxed);
        String got = answer(REAL.get(method + args.length), real, boxed);
        if (!due.equals(got) && !parted) {
            parted = true;
            wrong++;
            System.out.println(name + ": " + told + " answered " + got + ", due is " + due + ", behind" + story);
        }
        return due;
    }

    /** Likewise, and the story that a difference is told with has it. */
    String act(String method, int... args) {
        String due = call(method, args);
        StringBuilder told = new StringBuilder("\n  ").append(method);
        for (int a : args) {
            told.append(' ').append(a);
        }
        story.append(told).append(" -> ").append(due);
        return due;
    }

    String text(String method, String text, int player) {
        for (int i = 0; i < Texts.feedsOf(text); i++) {
            int[] f = Texts.feedOf(text, i);
            call("feed", f[0], f[1], f[2], f[3], f[4]);
        }
        story.append("\n  text \"").append(text).append('"');
        return method.equals("table") || method.equals("book") ? act(method, text.length()) : act(method, player, text.length());
    }

    int asked(String method, int... args) {
        return Integer.parseInt(call(method, args));
    }

    /** Who won in a TURN that has gone by, as the Model has it. */
    int winnerOf(int turn) {
        return model.winnerOf(turn);
    }

    /** One thing that can be asked for cheaply, the n-th of many kinds. */
    void peek(int n, int i) {
        int p = i % 3;
        switch (n % 13) {
            case 0:
                call("told", i % 9);
                break;
            case 1:
                call("row", p, i / 3);
                break;
            case 2:
                call("heap", p, i / 3);
                break;
            case 3:
                call("lain", p, i / 3);
                break;
            case 4:
                call("pool", i);
                break;
            case 5:
                call("player", p, i % 8);
                break;
            case 6:
                call("calls", p, i % 6);
                break;
            case 7:
                call("latest", i % 5);
                break;
            case 8:
                call("would", p, i & 1);
                break;
            case 9:
                call("right");
                break;
            case 10:
                call("count", i % 4);
                break;
            case 11:
                call("won", p);
                break;
            default:
                call("alike");
        }
    }

    /** All that can be asked for cheaply: at most 250 calls. */
    void compare() {
        for (int i = 0; i <= 8; i++) {
            call("told", i);
        }
        call("alike");
        call("fault");
        call("right");
        for (int i = 0; i <= 4; i++) {
            call("latest", i);
            call("count", i);
        }
        call("status", 0);
        call("status", 1);
        comparePile("pool");
        int lines = asked("count", 2);
        for (int i = 0; i <= lines; i++) {
            call("entry", i, 0);
            call("entry", i, 1);
        }
        int players = asked("told", 0);
        for (int p = 0; p < players; p++) {
            compareMan(p);
        }
    }

    private void comparePile(String pile, int... player) {
        int[] args = Arrays.copyOf(player, player.length + 1);
        for (int i = 0; i <= 60; i++) {
            args[player.length] = i;
            if (asked(pile, args) == SnapHeaps.NONE) {
                return;
            }
        }
    }

    private void compareMan(int p) {
        for (int i = 0; i <= 7; i++) {
            call("player", p, i);
        }
        comparePile("row", p);
        comparePile("heap", p);
        comparePile("lain", p);
        for (int i = 0; i <= 5; i++) {
            call("calls", p, i);
        }
        call("won", p);
        call("would", p, 0);
        call("would", p, 1);
    }
}
