import java.math.BigInteger;

/** Promises 18 to 22: tell, forget, which, ask, ages. */
final class ToldTest {
    private static final int NONE = CowsOwed.NONE, OUTSIDE = CowsOwed.OUTSIDE, STATE = CowsOwed.STATE,
        FULL = CowsOwed.FULL;
    private static final int LEAST = Integer.MIN_VALUE, GREATEST = Integer.MAX_VALUE;
    private static final Due DUE = new Due("ToldTest");

    public static void main(String[] args) {
        DUE.cases(ToldTest.class);
    }

    private static CowsOwed six() {
        return Due.told(1, 1, 2, 2, 3, 3, 4, 4, 5, 5, 6, 6);
    }

    // ---- promise 18: tell

    static void promise18_tell_tellsHowMuchIsTold() {
        CowsOwed x = Due.hills("c1,c1;1");
        DUE.is("tell(3, 4)", x.tell(3, 4), 1);
        DUE.is("tell(3, 4) again", x.tell(3, 4), 2);
        DUE.is("count(7)", x.count(7), 2);
    }

    static void promise18_tell_isTakenWithoutHills() {
        DUE.is("tell(3, 4)", new CowsOwed().tell(3, 4), 1);
    }

    static void promise18_tell_rateIs1To9() {
        DUE.is("tell(1, 1)", new CowsOwed().tell(1, 1), 1);
        DUE.is("tell(9, 1)", new CowsOwed().tell(9, 1), 1);
        for (int rate : new int[] {LEAST, -1, 0, 10, GREATEST}) {
            DUE.refuses(Due::busy, "tell(" + rate + ", 1)", x -> x.tell(rate, 1), OUTSIDE);
        }
    }

    static void promise18_tell_askedIs1To20() {
        DUE.is("tell(9, 1)", new CowsOwed().tell(9, 1), 1);
        DUE.is("tell(9, 20)", new CowsOwed().tell(9, 20), 1);
        for (int asked : new int[] {LEAST, -1, 0, 21, GREATEST}) {
            DUE.refuses(Due::busy, "tell(9, " + asked + ")", x -> x.tell(9, asked), OUTSIDE);
        }
    }

    static void promise18_tell_isTakenThoughNoKindAsksSo() {
        DUE.is("tell(1, 20)", new CowsOwed().tell(1, 20), 1);
        CowsOwed x = Due.told(3, 4, 3, 5);
        DUE.is("tell(3, 6)", x.tell(3, 6), 3);
    }

    static void promise18_tell_theSixthIsTheLast() {
        DUE.is("tell 6", Due.told(1, 1, 2, 2, 3, 3, 4, 4, 5, 5).tell(6, 6), 6);
        DUE.refuses(ToldTest::six, "tell 7", x -> x.tell(7, 7), FULL);
        DUE.refuses(ToldTest::six, "tell 7 that fits none", x -> x.tell(7, 20), FULL);
        DUE.is("count(7)", six().count(7), 6);
    }

    static void promise18_tell_tellsOutsideAheadOfFull() {
        DUE.refuses(ToldTest::six, "tell(0, 1)", x -> x.tell(0, 1), OUTSIDE);
        DUE.refuses(ToldTest::six, "tell(10, 1)", x -> x.tell(10, 1), OUTSIDE);
        DUE.refuses(ToldTest::six, "tell(1, 0)", x -> x.tell(1, 0), OUTSIDE);
        DUE.refuses(ToldTest::six, "tell(1, 21)", x -> x.tell(1, 21), OUTSIDE);
    }

    // ---- promise 19: forget

    static void promise19_forget_tellsHowMuchWasTold() {
        DUE.is("of nothing", new CowsOwed().forget(), 0);
        DUE.is("of one", Due.told(3, 4).forget(), 1);
        DUE.is("of six", six().forget(), 6);
    }

    static void promise19_forget_leavesNothingTold() {
        CowsOwed x = six();
        x.forget();
        DUE.is("count(7)", x.count(7), 0);
        DUE.is("which()", x.which(), 31);
        DUE.is("ask()", x.ask(), 2);
        DUE.is("forget() again", x.forget(), 0);
        DUE.is("digest()", x.digest(), new CowsOwed().digest());
    }

    static void promise19_forget_endsFull() {
        CowsOwed x = six();
        x.forget();
        for (int size = 1; size <= 6; size++) {
            DUE.is("tell " + size, x.tell(3, 2), size);
        }
        DUE.is("tell 7", x.tell(3, 2), FULL);
        DUE.is("which()", x.which(), 4);
    }

    static void promise19_forget_ofNothingChangesNothing() {
        DUE.changesNothing(() -> Due.hills("c1,c1;1"), "forget()", CowsOwed::forget);
    }

    // ---- promises 20 and 21: which and ask

    private static void which(int want, int... told) {
        DUE.is("which()", Due.told(told).which(), want);
    }

    static void promise20_which_ofNothingToldIsAll() {
        which(31);
    }

    static void promise20_which_ofOneToldAtRate3() {
        which(4, 3, 2);
        which(9, 3, 3);
        which(2, 3, 4);
        which(0, 3, 5);
        which(16, 3, 8);
    }

    static void promise20_which_aPoorOneAsks1AtRate1() {
        which(13, 1, 1);
        which(4, 2, 1);
        which(0, 3, 1);
    }

    static void promise20_which_kingsAsk20AtRate9() {
        which(16, 9, 20);
        which(0, 9, 19);
        which(0, 8, 20);
        which(16, 1, 4);
    }

    static void promise20_which_mustFitAllThatIsTold() {
        which(9, 1, 1, 2, 2);
        which(4, 1, 1, 2, 1);
        which(4, 2, 1, 1, 1);
        which(0, 1, 1, 2, 3);
        which(2, 1, 2, 9, 10);
    }

    static void promise20_which_theSixthToldCounts() {
        which(9, 1, 1, 2, 2, 3, 3, 4, 4, 5, 5, 6, 6);
        which(0, 1, 1, 2, 2, 3, 3, 4, 4, 5, 5, 6, 7);
        which(0, 1, 2, 2, 2, 3, 3, 4, 4, 5, 5, 6, 6);
    }

    static void promise20_which_isAsTheClansOfHillsAsk() {
        for (int rate = 1; rate <= 9; rate++) {
            for (int asked = 1; asked <= 20; asked++) {
                int want = 0;
                for (int kind = 0; kind < 5; kind++) {
                    CowsOwed hills = Due.hills("c0," + "cpowk".charAt(kind) + "0;1");
                    hills.rate(rate);
                    want |= hills.clan(1, 2) == asked ? 1 << kind : 0;
                }
                which(want, rate, asked);
            }
        }
    }

    static void promise20_which_doesNotHangOnHills() {
        CowsOwed x = Due.hills("p5,p5;5");
        DUE.is("which()", x.which(), 31);
        x.rate(9);
        x.tell(3, 3);
        DUE.is("which() of 3:3", x.which(), 9);
    }

    static void promise20_which_changesNothing() {
        DUE.changesNothing(ToldTest::six, "which()", CowsOwed::which);
        DUE.changesNothing(Due::busy, "which()", CowsOwed::which);
    }

    private static void ask(int want, int... told) {
        DUE.is("ask()", Due.told(told).ask(), want);
    }

    /** At rate 1 three kinds ask alike, at 2 and above only two. */
    static void promise21_ask_ofAllKindsIsTheLeastOfLikeRates() {
        ask(2);
        ask(2, 1, 1);
    }

    static void promise21_ask_ofKindsNoRatePartsIs1() {
        ask(1, 3, 3);
        ask(1, 9, 9);
        ask(1, 1, 1, 2, 2);
    }

    static void promise21_ask_ofOneKindIs1() {
        ask(1, 3, 4);
        ask(1, 3, 2);
        ask(1, 3, 8);
        ask(1, 9, 20);
    }

    static void promise21_ask_ofNoKindIsNone() {
        ask(NONE, 3, 5);
        ask(NONE, 1, 20);
        ask(NONE, 1, 1, 2, 3);
        ask(NONE, 1, 1, 2, 2, 3, 3, 4, 4, 5, 5, 6, 7);
    }

    static void promise21_ask_isToldThoughSixAreTold() {
        DUE.is("ask()", six().ask(), 1);
        ask(2, 1, 1, 1, 1, 1, 1, 1, 1, 1, 1, 1, 1);
    }

    static void promise21_ask_changesNothing() {
        DUE.changesNothing(ToldTest::six, "ask()", CowsOwed::ask);
        DUE.changesNothing(Due::busy, "ask()", CowsOwed::ask);
    }

    // ---- promise 22: ages

    private static void ages(CowsOwed x, int years, int seed, int owed, int cows) {
        DUE.is("ages(" + years + ", " + seed + ", 0)", x.ages(years, seed, 0), owed);
        DUE.is("ages(" + years + ", " + seed + ", 1)", x.ages(years, seed, 1), cows);
    }

    private static BigInteger next(BigInteger seed) {
        return seed.multiply(BigInteger.valueOf(1103515245)).add(BigInteger.valueOf(12345))
            .mod(BigInteger.ONE.shiftLeft(31));
    }

    static void promise22_ages_yearsAre1To40() {
        DUE.is("ages(1, 0, 2)", Due.busy().ages(1, 0, 2), 1406932606);
        DUE.holds("ages(40, 0, 2)", Due.busy().ages(40, 0, 2) >= 0);
        for (int years : new int[] {LEAST, -1, 0, 41, GREATEST}) {
            DUE.refuses(Due::busy, "ages(" + years + ", 0, 2)", x -> x.ages(years, 0, 2), OUTSIDE);
        }
    }

    static void promise22_ages_seedIs0AtLeast() {
        DUE.is("ages(1, 0, 2)", Due.busy().ages(1, 0, 2), 1406932606);
        DUE.refuses(Due::busy, "ages(1, -1, 2)", x -> x.ages(1, -1, 2), OUTSIDE);
        DUE.refuses(Due::busy, "ages(1, LEAST, 2)", x -> x.ages(1, LEAST, 2), OUTSIDE);
    }

    static void promise22_ages_theGreatestSeedIsTaken() {
        DUE.is("ages(1, GREATEST, 2)", Due.busy().ages(1, GREATEST, 2), 288979989);
    }

    static void promise22_ages_whatIs0To2() {
        for (int what : new int[] {LEAST, -1, 3, GREATEST}) {
            DUE.refuses(Due::busy, "ages(1, 0, " + what + ")", x -> x.ages(1, 0, what), OUTSIDE);
        }
    }

    static void promise22_ages_withoutHillsIsState() {
        for (int what = 0; what <= 2; what++) {
            int asked = what;
            DUE.refuses(CowsOwed::new, "ages(1, 0, " + what + ")", x -> x.ages(1, 0, asked), STATE);
            DUE.refuses(CowsOwed::new, "ages(40, GREATEST, " + what + ")", x -> x.ages(40, GREATEST, asked), STATE);
        }
    }

    static void promise22_ages_tellsOutsideAheadOfState() {
        DUE.refuses(CowsOwed::new, "ages(0, 0, 0)", x -> x.ages(0, 0, 0), OUTSIDE);
        DUE.refuses(CowsOwed::new, "ages(41, 0, 0)", x -> x.ages(41, 0, 0), OUTSIDE);
        DUE.refuses(CowsOwed::new, "ages(1, -1, 0)", x -> x.ages(1, -1, 0), OUTSIDE);
        DUE.refuses(CowsOwed::new, "ages(1, 0, -1)", x -> x.ages(1, 0, -1), OUTSIDE);
        DUE.refuses(CowsOwed::new, "ages(1, 0, 3)", x -> x.ages(1, 0, 3), OUTSIDE);
    }

    /** Two draws a year, also where they are of the same clan. */
    static void promise22_ages_theSeedWrapsAround() {
        CowsOwed x = Due.hills("c1,p2,k3;2");
        for (int seed : new int[] {0, 1, 2, 471, 65535, 65536, 1 << 30, GREATEST - 1, GREATEST}) {
            for (int years : new int[] {1, 2, 7, 39, 40}) {
                BigInteger last = BigInteger.valueOf(seed);
                for (int i = 0; i < 2 * years; i++) {
                    last = next(last);
                }
                DUE.is("ages(" + years + ", " + seed + ", 2)", x.ages(years, seed, 2), last.intValueExact());
            }
        }
    }

    /** Seed 0 draws clan 0 twice: the year goes by without a wedding. */
    static void promise22_ages_ofTheSameClanNoWedding() {
        ages(Due.hills("c5,k0;5"), 1, 0, 0, 7);
        ages(Due.hills("k0,k0,k0,k0;5"), 1, 0, 0, 0);
    }

    /** Of two, seed 2 draws 0 and 1, seed 4 draws 1 and 0. */
    static void promise22_ages_hisIsDrawnAheadOfHers() {
        ages(Due.hills("c0,k0;5"), 1, 2, 12, 0);
        ages(Due.hills("c0,k0;5"), 1, 4, 5, 0);
    }

    /** Seed 7 draws 1 and 2 of three, seed 5 draws 3 and 1 of four. */
    static void promise22_ages_drawsAreOfHowManyClansThereAre() {
        ages(Due.hills("c0,c5,k0;1"), 1, 7, 0, 7);
        ages(Due.hills("c5,c0,k0;1"), 1, 7, 4, 7);
        ages(Due.hills("c0,k0,c0,c5;1"), 1, 5, 0, 7);
        ages(Due.hills("c5,k0,c0,c0;1"), 1, 5, 4, 7);
    }

    /** A year ahead of the wedding would make two cows three, and nothing would be owed. */
    static void promise22_ages_theWeddingIsAheadOfTheYear() {
        ages(Due.hills("c2,c0;3"), 1, 2, 1, 3);
    }

    static void promise22_ages_beginWithWhatIsNow() {
        ages(Due.wedded("c0,c0;5", 0, 1), 1, 0, 5, 0);
        CowsOwed x = Due.hills("c5,k0;1");
        x.rate(9);
        ages(x, 1, 2, 15, 7);
    }

    static void promise22_ages_growTo99AtMost() {
        ages(Due.hills("c9,c0;1"), 40, 0, 0, agesOfTwoPlainClans(40, 0));
    }

    /** What two clans have of 9 and 0 cows at rate 1, told by hand. */
    private static int agesOfTwoPlainClans(int years, int firstSeed) {
        int[] herd = {9, 0};
        int[] owes = {0, 0};
        BigInteger seed = BigInteger.valueOf(firstSeed);
        for (int i = 0; i < years; i++) {
            seed = next(seed);
            int his = seed.testBit(16) ? 1 : 0;
            seed = next(seed);
            int hers = seed.testBit(16) ? 1 : 0;
            if (his != hers) {
                owes[his] += herd[his] > 0 ? 0 : 1;
                herd[hers] += herd[his] > 0 ? 1 : 0;
                herd[his] -= herd[his] > 0 ? 1 : 0;
            }
            for (int clan = 0; clan < 2; clan++) {
                herd[clan] = herd[clan] > 99 ? herd[clan] : Math.min(99, herd[clan] + herd[clan] / 2);
            }
            for (int clan = 0; clan < 2; clan++) {
                int paid = Math.min(owes[clan], herd[clan]);
                owes[clan] -= paid;
                herd[clan] -= paid;
                herd[1 - clan] += paid;
            }
        }
        return herd[0] + herd[1];
    }

    /** Ages are the weddings and years that the draws tell. */
    static void promise22_ages_areAsIfLived() {
        for (String text : new String[] {"c9,p8;3", "w5,k2,o7,p0;3", "k9,k9,k9;5", "w9,w1,o0,c4;2", "p9,o9,c9;1"}) {
            for (int seed = 0; seed < 60; seed += 7) {
                for (int years = 1; years <= 12; years++) {
                    CowsOwed x = Due.wedded(text, 0, 1);
                    int owed = x.ages(years, seed, 0);
                    int cows = x.ages(years, seed, 1);
                    if (lived(x, years, seed)) {
                        String name = text + ": ages(" + years + ", " + seed + ", ";
                        DUE.is(name + "0)", owed, x.count(3));
                        DUE.is(name + "1)", cows, x.count(2));
                    }
                }
            }
        }
    }

    /** Whether all of the weddings could be held, with 12 at most. */
    private static boolean lived(CowsOwed x, int years, int firstSeed) {
        BigInteger clans = BigInteger.valueOf(x.count(0));
        BigInteger seed = BigInteger.valueOf(firstSeed);
        for (int i = 0; i < years; i++) {
            seed = next(seed);
            int his = seed.shiftRight(16).mod(clans).intValueExact();
            seed = next(seed);
            int hers = seed.shiftRight(16).mod(clans).intValueExact();
            if (his != hers && x.wed(his, hers) == FULL) {
                return false;
            }
            x.year();
        }
        return true;
    }

    /** Without cows each wedding owes all: two kings at rate 9 owe 20 for each. */
    static void promise22_ages_haveMoreThanTwelveWeddings() {
        CowsOwed x = Due.hills("k0,k0;1");
        x.rate(9);
        for (int seed = 0; seed < 20; seed++) {
            int weddings = 0;
            BigInteger draw = BigInteger.valueOf(seed);
            for (int i = 0; i < 40; i++) {
                draw = next(draw);
                boolean his = draw.testBit(16);
                draw = next(draw);
                weddings += his != draw.testBit(16) ? 1 : 0;
            }
            DUE.holds("seed " + seed + " draws more than 12 weddings", weddings > 12);
            ages(x, 40, seed, 20 * weddings, 0);
        }
    }

    static void promise22_ages_areToldThoughTwelveWeddingsWere() {
        CowsOwed x = Due.wedded("c0,c0;1", 0, 1, 0, 1, 0, 1, 0, 1, 0, 1, 0, 1, 0, 1, 0, 1, 0, 1, 0, 1, 0, 1, 0, 1);
        DUE.is("count(4)", x.count(4), 12);
        ages(x, 1, 2, 13, 0);
    }

    static void promise22_ages_changeNothing() {
        for (int what = 0; what <= 2; what++) {
            int asked = what;
            DUE.changesNothing(Due::busy, "ages(40, 471, " + what + ")", x -> x.ages(40, 471, asked));
        }
    }
}
