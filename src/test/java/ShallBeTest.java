import java.util.function.Supplier;

/** Promises 14 to 17: plan, dream, order, high. */
final class ShallBeTest {
    private static final int NONE = CowsOwed.NONE, UNKNOWN = CowsOwed.UNKNOWN, OUTSIDE = CowsOwed.OUTSIDE,
        STATE = CowsOwed.STATE, FULL = CowsOwed.FULL;
    private static final int LEAST = Integer.MIN_VALUE, GREATEST = Integer.MAX_VALUE;
    private static final Due DUE = new Due("ShallBeTest");

    public static void main(String[] args) {
        DUE.cases(ShallBeTest.class);
    }

    private static CowsOwed four() {
        return Due.planned("c1,c2,c3;2", 0, 1, 0, 1, 2, 1, 1, 2);
    }

    private static CowsOwed twelveWeddings() {
        CowsOwed x = Due.hills("c0,c0;5");
        for (int i = 0; i < 12; i++) {
            x.wed(0, 1);
        }
        return x;
    }

    // ---- promise 14: plan

    static void promise14_plan_tellsHowManyThereAre() {
        CowsOwed x = Due.hills("c1,c2,c3;2");
        DUE.is("plan(0, 1)", x.plan(0, 1), 1);
        DUE.is("plan(0, 1) again", x.plan(0, 1), 2);
        DUE.is("plan(2, 1)", x.plan(2, 1), 3);
        DUE.is("count(6)", x.count(6), 3);
    }

    static void promise14_plan_theFourthIsTheLast() {
        DUE.is("plan 4", Due.planned("c1,c2,c3;2", 0, 1, 0, 1, 2, 1).plan(1, 2), 4);
        DUE.refuses(ShallBeTest::four, "plan 5", x -> x.plan(1, 2), FULL);
        DUE.is("count(6)", four().count(6), 4);
    }

    static void promise14_plan_fullEndsWithDream() {
        CowsOwed x = four();
        x.dream();
        for (int size = 1; size <= 4; size++) {
            DUE.is("plan " + size, x.plan(0, 1), size);
        }
        DUE.is("plan 5", x.plan(0, 1), FULL);
    }

    static void promise14_plan_unknownHis() {
        DUE.is("plan(2, 0)", Due.hills("c1,c2,c3;2").plan(2, 0), 1);
        for (int his : new int[] {LEAST, -1, 3, 4, GREATEST}) {
            DUE.refuses(() -> Due.planned("c1,c2,c3;2", 0, 1), "plan(" + his + ", 0)", x -> x.plan(his, 0), UNKNOWN);
        }
    }

    static void promise14_plan_unknownHers() {
        DUE.is("plan(0, 2)", Due.hills("c1,c2,c3;2").plan(0, 2), 1);
        for (int hers : new int[] {LEAST, -1, 3, 4, GREATEST}) {
            DUE.refuses(() -> Due.planned("c1,c2,c3;2", 0, 1), "plan(0, " + hers + ")", x -> x.plan(0, hers), UNKNOWN);
        }
    }

    static void promise14_plan_ofTheSameIsUnknown() {
        for (int clan = 0; clan < 4; clan++) {
            int same = clan;
            DUE.refuses(Due::busy, "plan(" + clan + ", " + clan + ")", x -> x.plan(same, same), UNKNOWN);
        }
    }

    static void promise14_plan_tellsUnknownAheadOfFull() {
        DUE.refuses(ShallBeTest::four, "plan(3, 0)", x -> x.plan(3, 0), UNKNOWN);
        DUE.refuses(ShallBeTest::four, "plan(0, 3)", x -> x.plan(0, 3), UNKNOWN);
        DUE.refuses(ShallBeTest::four, "plan(1, 1)", x -> x.plan(1, 1), UNKNOWN);
    }

    static void promise14_plan_withoutHillsIsUnknown() {
        DUE.refuses(CowsOwed::new, "plan(0, 1)", x -> x.plan(0, 1), UNKNOWN);
    }

    static void promise14_plan_isNoWeddingYet() {
        CowsOwed x = four();
        DUE.is("count(4)", x.count(4), 0);
        DUE.is("count(3)", x.count(3), 0);
        DUE.is("clan(0, 1)", x.clan(0, 1), 1);
    }

    static void promise14_plan_isTakenThoughTwelveWeddingsWere() {
        DUE.is("plan(0, 1)", twelveWeddings().plan(0, 1), 1);
    }

    static void promise14_plan_staysWhenAWeddingIsHeld() {
        CowsOwed x = four();
        x.wed(0, 1);
        x.year();
        DUE.is("count(6)", x.count(6), 4);
    }

    // ---- promise 15: dream

    static void promise15_dream_tellsHowManyThereWere() {
        DUE.is("of none", Due.hills("c1,c2;2").dream(), 0);
        DUE.is("of one", Due.planned("c1,c2;2", 0, 1).dream(), 1);
        DUE.is("of four", four().dream(), 4);
    }

    static void promise15_dream_withoutHillsIs0() {
        DUE.is("dream()", new CowsOwed().dream(), 0);
        DUE.changesNothing(CowsOwed::new, "dream()", CowsOwed::dream);
    }

    static void promise15_dream_leavesNoPlans() {
        CowsOwed x = four();
        x.dream();
        DUE.is("count(6)", x.count(6), 0);
        DUE.is("dream() again", x.dream(), 0);
        DUE.is("order(10)", x.order(10), NONE);
        DUE.is("high()", x.high(), 9);
        DUE.is("digest()", x.digest(), Due.hills("c1,c2,c3;2").digest());
    }

    // ---- promise 16: order

    /** How much is owed, then the plans in their order. */
    private static void ordered(Supplier<CowsOwed> made, int owed, int... plans) {
        CowsOwed x = made.get();
        DUE.is("order(0)", x.order(0), owed);
        for (int i = 0; i < 4; i++) {
            DUE.is("order(" + (10 + i) + ")", x.order(10 + i), i < plans.length ? plans[i] : NONE);
        }
    }

    static void promise16_order_withoutPlansIsWhatIsOwedNow() {
        ordered(() -> Due.hills("c0,c4;4"), 0);
        ordered(() -> Due.wedded("c0,c4;4", 0, 1), 4);
    }

    static void promise16_order_ofOnePlan() {
        ordered(() -> Due.planned("c0,c4;4", 0, 1), 4, 0);
        ordered(() -> Due.planned("c4,c4;4", 0, 1), 0, 0);
    }

    static void promise16_order_ofTwoPlans() {
        ordered(() -> Due.planned("c0,c4;4", 0, 1, 1, 0), 0, 1, 0);
        ordered(() -> Due.planned("c4,c0;4", 0, 1, 1, 0), 0, 0, 1);
    }

    static void promise16_order_ofThreePlans() {
        ordered(() -> Due.planned("c0,w0,c3;3", 0, 1, 1, 2, 2, 0), 1, 2, 0, 1);
        ordered(() -> Due.planned("k0,c9,p2;2", 1, 0, 2, 0, 0, 2), 1, 0, 2, 1);
    }

    static void promise16_order_ofFourPlans() {
        ordered(() -> Due.planned("c0,c0,c0,c3;3", 0, 1, 1, 2, 2, 3, 3, 0), 0, 3, 0, 1, 2);
    }

    static void promise16_order_theLastOrderByNumbersMayBeTheBest() {
        ordered(() -> Due.planned("c0,c0,c0,c3;3", 2, 3, 1, 2, 0, 1, 3, 0), 0, 3, 2, 1, 0);
    }

    static void promise16_order_ofLikeOnesTheFirstByNumbers() {
        ordered(() -> Due.planned("c9,c9;1", 0, 1, 1, 0, 0, 1, 1, 0), 0, 0, 1, 2, 3);
        ordered(() -> Due.planned("c0,c0;2", 0, 1, 1, 0, 0, 1, 1, 0), 8, 0, 1, 2, 3);
        ordered(() -> Due.planned("c0,c8;4", 0, 1, 1, 0, 1, 0), 0, 1, 0, 2);
    }

    static void promise16_order_countsWhatIsOwedNow() {
        ordered(() -> {
            CowsOwed x = Due.planned("c0,c4;4", 0, 1, 1, 0);
            x.wed(0, 1);
            return x;
        }, 4, 1, 0);
    }

    static void promise16_order_hasNoYearBetween() {
        ordered(() -> Due.planned("c2,c0;3", 0, 1), 1, 0);
        ordered(() -> Due.planned("c6,c0;4", 0, 1, 0, 1), 2, 0, 1);
    }

    static void promise16_order_isByTheRateNow() {
        CowsOwed x = Due.planned("c0,c4;4", 0, 1);
        x.rate(9);
        DUE.is("order(0)", x.order(0), 9);
        x.rate(1);
        DUE.is("order(0) at rate 1", x.order(0), 1);
    }

    static void promise16_order_isToldThoughTwelveWeddingsWere() {
        ordered(() -> {
            CowsOwed x = twelveWeddings();
            x.plan(0, 1);
            x.plan(1, 0);
            return x;
        }, 70, 0, 1);
    }

    static void promise16_order_whatIs0And10To13() {
        DUE.is("order(10)", four().order(10), 0);
        DUE.is("order(13)", four().order(13), 3);
        for (int what : new int[] {LEAST, -1, 1, 2, 9, 14, GREATEST}) {
            DUE.refuses(ShallBeTest::four, "order(" + what + ")", x -> x.order(what), OUTSIDE);
        }
    }

    static void promise16_order_withoutHillsIsState() {
        for (int what : new int[] {0, 10, 11, 12, 13}) {
            DUE.refuses(CowsOwed::new, "order(" + what + ")", x -> x.order(what), STATE);
        }
    }

    static void promise16_order_tellsOutsideAheadOfState() {
        for (int what : new int[] {-1, 1, 9, 14}) {
            DUE.refuses(CowsOwed::new, "order(" + what + ")", x -> x.order(what), OUTSIDE);
        }
    }

    static void promise16_order_changesNothing() {
        for (int what : new int[] {0, 10, 13}) {
            DUE.changesNothing(ShallBeTest::four, "order(" + what + ")", x -> x.order(what));
            DUE.changesNothing(Due::busy, "order(" + what + ")", x -> x.order(what));
        }
    }

    // ---- promise 17: high

    private static void highest(int want, String text, int... pairs) {
        DUE.is("high() of " + text, Due.planned(text, pairs).high(), want);
    }

    static void promise17_high_withoutHillsIsState() {
        DUE.refuses(CowsOwed::new, "high()", CowsOwed::high, STATE);
        DUE.refuses(() -> Due.page("c0,k1;4"), "high()", CowsOwed::high, STATE);
    }

    static void promise17_high_withoutPlansIs9() {
        highest(9, "c0,c0;1");
        DUE.is("high() with debts", Due.wedded("c0,c0;5", 0, 1).high(), 9);
    }

    static void promise17_high_9IsTheGreatest() {
        highest(9, "c9,c0;1", 0, 1);
        highest(8, "c8,c0;1", 0, 1);
        CowsOwed x = Due.planned("c9,c0;1", 0, 1);
        Due.years(x, 5);
        DUE.is("high() of 63 cows", x.high(), 9);
    }

    static void promise17_high_1IsTheLeast() {
        highest(1, "c1,c0;5", 0, 1);
        highest(1, "c4,k0;5", 0, 1);
    }

    static void promise17_high_noneWhenOneIsTooMuch() {
        highest(NONE, "c0,c0;1", 0, 1);
        highest(NONE, "w1,c0;1", 0, 1);
        highest(NONE, "c3,k0;1", 0, 1);
    }

    static void promise17_high_byWhatEachKindAsks() {
        highest(5, "c5,c0;1", 0, 1);
        highest(4, "c5,p0;1", 0, 1);
        highest(6, "c5,o0;1", 0, 1);
        highest(5, "c5,w0;1", 0, 1);
        highest(1, "c5,k0;1", 0, 1);
        highest(2, "c6,k0;1", 0, 1);
    }

    static void promise17_high_ofAPoorBrideAtTheLeast() {
        highest(2, "c1,o0;1", 0, 1);
        highest(NONE, "c0,o0;1", 0, 1);
    }

    static void promise17_high_carefulKeepsOne() {
        highest(4, "w5,c0;1", 0, 1);
    }

    /** At rate 1 the careful one can't spare its only cow, at more it can. */
    static void promise17_high_aLowerRateMayBeTooMuch() {
        highest(5, "c5,w0,o0;1", 0, 1, 1, 2);
    }

    static void promise17_high_plansShareTheHerd() {
        highest(4, "c9,c0,c0;1", 0, 1, 0, 2);
        highest(2, "c8,c0;1", 0, 1, 0, 1, 0, 1, 0, 1);
        highest(NONE, "c3,c0;1", 0, 1, 0, 1, 0, 1, 0, 1);
    }

    static void promise17_high_cowsThatComeArePaidOn() {
        highest(7, "c7,c0,c0;1", 0, 1, 1, 2);
    }

    static void promise17_high_isByNumberOfThePlans() {
        highest(NONE, "c0,c4;4", 0, 1, 1, 0);
        highest(4, "c0,c4;4", 1, 0, 0, 1);
    }

    static void promise17_high_whatIsOwedNowIsNoMore() {
        CowsOwed x = Due.wedded("c0,c9;5", 0, 1);
        x.plan(1, 0);
        DUE.is("the debt stays", x.high(), 9);
        x.plan(0, 1);
        DUE.is("what came in is paid, not the debt", x.high(), 9);
        x.plan(0, 1);
        DUE.is("more would be owed", x.high(), NONE);
    }

    static void promise17_high_isTheSameAtAnyRateNow() {
        CowsOwed x = Due.planned("c5,p0;1", 0, 1);
        for (int rate = 1; rate <= 9; rate++) {
            x.rate(rate);
            DUE.is("high() at rate " + rate, x.high(), 4);
        }
    }

    static void promise17_high_isToldThoughTwelveWeddingsWere() {
        CowsOwed x = twelveWeddings();
        x.plan(0, 1);
        DUE.is("high()", x.high(), NONE);
    }

    static void promise17_high_changesNothing() {
        DUE.changesNothing(ShallBeTest::four, "high()", CowsOwed::high);
        DUE.changesNothing(Due::busy, "high()", CowsOwed::high);
    }
}
