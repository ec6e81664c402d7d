import java.util.function.LongSupplier;

/** Counts answers that are not as due, and makes objects for the tests. */
final class Due {
    private final String name;
    private int asked = 0;
    private int wrong = 0;

    Due(String name) {
        this.name = name;
    }

    void is(String call, long got, long want) {
        asked++;
        if (got != want) {
            wrong++;
            System.out.println(name + ": " + call + " answered " + got + ", due is " + want);
        }
    }

    void holds(String what, boolean so) {
        is(what, so ? 1 : 0, 1);
    }

    /** A refusal answers as due and changes nothing that the digest tells. */
    void refuses(CowsOwed x, String call, LongSupplier answer, long want) {
        long before = x.digest();
        is(call, answer.getAsLong(), want);
        is("digest() behind the refused " + call, x.digest(), before);
    }

    void end() {
        System.out.println(name + ": " + asked + " answers, " + wrong + " not as due");
        if (wrong != 0 || asked == 0) {
            System.exit(1);
        }
    }

    static void write(CowsOwed x, String text) {
        for (char c : text.toCharArray()) {
            x.letter(c);
        }
    }

    static CowsOwed page(String text) {
        CowsOwed x = new CowsOwed();
        write(x, text);
        return x;
    }

    static CowsOwed hills(String text) {
        CowsOwed x = page(text);
        if (x.hills() < 2) {
            System.out.println("no hills: " + text);
            System.exit(1);
        }
        return x;
    }
}
