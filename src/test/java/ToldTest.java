import java.math.BigInteger;

/** Promises 18 to 22: tell, forget, which, ask, ages. */
final class ToldTest {
    private static final int NONE = CowsOwed.NONE, OUTSIDE = CowsOwed.OUTSIDE, STATE = CowsOwed.STATE,
        FULL = CowsOwed.FULL;
    private static final Due DUE = new Due("ToldTest");

    public static void main(String[] args) {
        tell();
        forget();
        whichAndAsk();
        whichOfEach();
        agesRefuses();
        agesSeed();
        agesAsLived();
        agesBeyondTwelveWeddings();
        DUE.end();
    }

    private static void tell() {
        CowsOwed x = new CowsOwed();
        int[][] wrong = {{0, 1}, {10, 1}, {1, 0}, {1, 21}, {-1, 5}, {5, -1},
            {Integer.MIN_VALUE, 1}, {1, Integer.MIN_VALUE}, {Integer.MAX_VALUE, 1}, {1, Integer.MAX_VALUE}};
        for (int[] pair : wrong) {
            DUE.refuses(x, "tell(" + pair[0] + ", " + pair[1] + ")", () -> x.tell(pair[0], pair[1]), OUTSIDE);
        }
        DUE.is("tell(1, 1)", x.tell(1, 1), 1);
        DUE.is("tell(9, 20)", x.tell(9, 20), 2);
        for (int i = 3; i <= 6; i++) {
            DUE.is("tell " + i, x.tell(9, 1), i);
        }
        DUE.refuses(x, "tell 7", () -> x.tell(1, 1), FULL);
        DUE.refuses(x, "tell(0, 1) of 6", () -> x.tell(0, 1), OUTSIDE);
        DUE.is("count(7)", x.count(7), 6);
    }

    private static void forget() {
        CowsOwed x = Due.hills("c1,c1;1");
        x.tell(3, 4);
        x.tell(3, 2);
        DUE.is("which()", x.which(), 0);
        DUE.is("forget()", x.forget(), 2);
        DUE.is("count(7)", x.count(7), 0);
        DUE.is("which() behind forget()", x.which(), 31);
        DUE.is("forget() again", x.forget(), 0);
        DUE.is("tell behind forget()", x.tell(3, 2), 1);
        DUE.is("which() behind tell", x.which(), 4);
    }

    /** Pairs of rate and what was asked, then the kinds left and the rate to ask at. */
    private static void whichAndAsk() {
        left(31, 2);
        left(9, 1, 3, 3);
        left(2, 1, 3, 4);
        left(4, 1, 3, 2);
        left(16, 1, 3, 8);
        left(0, NONE, 3, 5);
        left(13, 2, 1, 1);
        left(2, 1, 1, 2);
        left(16, 1, 1, 4);
        left(0, NONE, 1, 3);
        left(16, 1, 9, 20);
        left(9, 1, 1, 1, 2, 2);
        left(4, 1, 1, 1, 2, 1);
        left(4, 1, 2, 1, 1, 1);
        left(0, NONE, 1, 1, 2, 3);
        left(9, 1, 1, 1, 2, 2, 3, 3, 4, 4, 5, 5, 6, 6);
        left(0, NONE, 1, 1, 2, 2, 3, 3, 4, 4, 5, 5, 6, 7);
    }

    private static void left(int kinds, int rate, int... told) {
        CowsOwed x = new CowsOwed();
        StringBuilder name = new StringBuilder("told");
        for (int i = 0; i + 1 < told.length; i += 2) {
            x.tell(told[i], told[i + 1]);
            name.append(' ').append(told[i]).append(':').append(told[i + 1]);
        }
        DUE.is(name + ": which()", x.which(), kinds);
        DUE.is(name + ": ask()", x.ask(), rate);
    }

    /** Which kinds ask what, as the clans of hills do. */
    private static void whichOfEach() {
        String letters = "cpowk";
        for (int rate = 1; rate <= 9; rate++) {
            for (int asked = 1; asked <= 20; asked++) {
                int want = 0;
                for (int kind = 0; kind < 5; kind++) {
                    CowsOwed hills = Due.hills("c0," + letters.charAt(kind) + "0;1");
                    hills.rate(rate);
                    want |= hills.clan(1, 2) == asked ? 1 << kind : 0;
                }
                CowsOwed x = new CowsOwed();
                x.tell(rate, asked);
                DUE.is("which() of " + rate + ":" + asked, x.which(), want);
            }
        }
    }

    private static void agesRefuses() {
        CowsOwed x = Due.hills("c1,p2,k3;2");
        int big = Integer.MAX_VALUE;
        int least = Integer.MIN_VALUE;
        int[][] wrong = {{0, 1, 0}, {41, 1, 0}, {-1, 1, 0}, {big, 1, 0}, {least, 1, 0}, {1, -1, 0}, {1, least, 0},
            {1, 1, -1}, {1, 1, 3}, {1, 1, big}, {1, 1, least}};
        for (int[] of : wrong) {
            String name = "ages(" + of[0] + ", " + of[1] + ", " + of[2] + ")";
            DUE.refuses(x, name, () -> x.ages(of[0], of[1], of[2]), OUTSIDE);
            DUE.is(name + " without hills", new CowsOwed().ages(of[0], of[1], of[2]), OUTSIDE);
        }
        DUE.is("ages(1, 0, 2) without hills", new CowsOwed().ages(1, 0, 2), STATE);
        DUE.is("ages(40, MAX, 0) without hills", new CowsOwed().ages(40, big, 0), STATE);
    }

    private static void agesSeed() {
        CowsOwed x = Due.hills("c1,p2,k3;2");
        DUE.is("ages(1, 0, 2)", x.ages(1, 0, 2), 1406932606);
        for (int seed : new int[] {0, 1, 2, 471, 65536, 1 << 30, Integer.MAX_VALUE}) {
            for (int years : new int[] {1, 2, 7, 40}) {
                BigInteger last = BigInteger.valueOf(seed);
                for (int i = 0; i < 2 * years; i++) {
                    last = next(last);
                }
                DUE.is("ages(" + years + ", " + seed + ", 2)", x.ages(years, seed, 2), last.intValueExact());
            }
        }
    }

    private static BigInteger next(BigInteger seed) {
        return seed.multiply(BigInteger.valueOf(1103515245)).add(BigInteger.valueOf(12345))
            .mod(BigInteger.ONE.shiftLeft(31));
    }

    /** Ages are the weddings and years that the draws tell, and leave all as it is. */
    private static void agesAsLived() {
        String[] all = {"c9,p8;3", "w5,k2,o7,p0;3", "k9,k9,k9;5", "w9,w1,o0,c4;2", "p9,o9,c9;1"};
        for (String text : all) {
            for (int seed = 0; seed < 60; seed += 7) {
                for (int years = 1; years <= 12; years++) {
                    CowsOwed x = Due.hills(text);
                    x.wed(0, 1);
                    long before = x.digest();
                    int owed = x.ages(years, seed, 0);
                    int cows = x.ages(years, seed, 1);
                    DUE.is(text + ": ages change nothing", x.digest(), before);
                    if (lived(x, years, seed)) {
                        String name = text + ": ages(" + years + ", " + seed + ", ";
                        DUE.is(name + "0)", owed, x.count(3));
                        DUE.is(name + "1)", cows, x.count(2));
                    }
                }
            }
        }
    }

    /** Whether all of the weddings could be held, with 12 at most. */
    private static boolean lived(CowsOwed x, int years, int firstSeed) {
        BigInteger clans = BigInteger.valueOf(x.count(0));
        BigInteger seed = BigInteger.valueOf(firstSeed);
        for (int i = 0; i < years; i++) {
            seed = next(seed);
            int his = seed.shiftRight(16).mod(clans).intValueExact();
            seed = next(seed);
            int hers = seed.shiftRight(16).mod(clans).intValueExact();
            if (his != hers && x.wed(his, hers) == FULL) {
                return false;
            }
            x.year();
        }
        return true;
    }

    /** Without cows each wedding owes all: two kings at rate 9 owe 20 for each. */
    private static void agesBeyondTwelveWeddings() {
        CowsOwed x = Due.hills("k0,k0;1");
        x.rate(9);
        for (int seed = 0; seed < 20; seed++) {
            int weddings = 0;
            BigInteger draw = BigInteger.valueOf(seed);
            for (int i = 0; i < 40; i++) {
                draw = next(draw);
                boolean his = draw.testBit(16);
                draw = next(draw);
                weddings += his != draw.testBit(16) ? 1 : 0;
            }
            DUE.is("ages(40, " + seed + ", 0) of kings", x.ages(40, seed, 0), 20L * weddings);
            DUE.is("ages(40, " + seed + ", 1) of kings", x.ages(40, seed, 1), 0);
        }
    }
}
