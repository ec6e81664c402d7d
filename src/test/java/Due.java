import java.lang.reflect.InvocationTargetException;
import java.lang.reflect.Method;
import java.util.Arrays;
import java.util.Comparator;
import java.util.List;
import java.util.function.Supplier;
import java.util.function.ToLongFunction;

/** Counts answers that are not as due, runs a test's cases by their names, and makes objects for them. */
final class Due {
    private final String name;
    private String at = "";
    private int cases = 0;
    private int asked = 0;
    private int wrong = 0;

    Due(String name) {
        this.name = name;
    }

    /** Each method whose name begins with "promise" is a case: none can be forgotten. */
    void cases(Class<?> test) {
        Method[] methods = test.getDeclaredMethods();
        Arrays.sort(methods, Comparator.comparing(Method::getName));
        for (Method method : methods) {
            if (method.getName().startsWith("promise")) {
                runCase(method);
            }
        }
        end();
    }

    private void runCase(Method method) {
        at = method.getName() + ": ";
        cases++;
        int before = asked;
        try {
            method.setAccessible(true);
            method.invoke(null);
        } catch (InvocationTargetException | IllegalAccessException e) {
            fail("ended by " + (e.getCause() == null ? e : e.getCause()));
        }
        if (asked == before) {
            fail("asked nothing");
        }
    }

    private void fail(String why) {
        wrong++;
        System.out.println(name + ": " + at + why);
    }

    void is(String call, long got, long want) {
        asked++;
        if (got != want) {
            fail(call + " answered " + got + ", due is " + want);
        }
    }

    void holds(String what, boolean so) {
        is(what, so ? 1 : 0, 1);
    }

    /** A refusal answers as due and changes nothing. */
    void refuses(Supplier<CowsOwed> made, String call, ToLongFunction<CowsOwed> refused, long want) {
        is(call, refused.applyAsLong(made.get()), want);
        changesNothing(made, call, refused);
    }

    /** Beside an object that was not asked, other calls tell the same of one that was. */
    void changesNothing(Supplier<CowsOwed> made, String call, ToLongFunction<CowsOwed> query) {
        CowsOwed x = made.get();
        query.applyAsLong(x);
        List<String> got = Look.at(x);
        List<String> want = Look.at(made.get());
        asked++;
        for (int i = 0; i < want.size(); i++) {
            if (!got.get(i).equals(want.get(i))) {
                fail("behind " + call + " it told " + got.get(i) + ", without it " + want.get(i));
                return;
            }
        }
    }

    void end() {
        System.out.println(name + ": " + (cases > 0 ? cases + " cases, " : "") + asked + " answers, "
            + wrong + " not as due");
        if (wrong != 0 || asked == 0) {
            System.exit(1);
        }
    }

    static void write(CowsOwed x, String text) {
        for (char c : text.toCharArray()) {
            x.letter(c);
        }
    }

    static CowsOwed page(String text) {
        CowsOwed x = new CowsOwed();
        write(x, text);
        return x;
    }

    static CowsOwed hills(String text) {
        CowsOwed x = page(text);
        if (x.hills() < 2) {
            throw new IllegalStateException("no hills: " + text);
        }
        return x;
    }

    /** Weddings of clans by pairs: his, hers, his, hers. */
    static CowsOwed wedded(String text, int... pairs) {
        CowsOwed x = hills(text);
        for (int i = 0; i + 1 < pairs.length; i += 2) {
            x.wed(pairs[i], pairs[i + 1]);
        }
        return x;
    }

    /** Plans of clans by pairs: his, hers, his, hers. */
    static CowsOwed planned(String text, int... pairs) {
        CowsOwed x = hills(text);
        for (int i = 0; i + 1 < pairs.length; i += 2) {
            x.plan(pairs[i], pairs[i + 1]);
        }
        return x;
    }

    /** Pairs of a rate and what was asked at it. */
    static CowsOwed told(int... pairs) {
        CowsOwed x = new CowsOwed();
        for (int i = 0; i + 1 < pairs.length; i += 2) {
            x.tell(pairs[i], pairs[i + 1]);
        }
        return x;
    }

    static void years(CowsOwed x, int years) {
        for (int i = 0; i < years; i++) {
            x.year();
        }
    }

    /** Hills with something of everything: debts, an undone wedding, years, plans, told, an image, letters. */
    static CowsOwed busy() {
        CowsOwed x = hills("w5,k2,o7,p0;3");
        x.wed(0, 1);
        x.image();
        x.wed(2, 1);
        x.plan(3, 1);
        x.plan(1, 0);
        x.tell(1, 1);
        years(x, 2);
        x.divorce(1);
        write(x, "c1,k");
        return x;
    }
}
