/** Promises 14 to 17: plan, dream, order, high. */
final class ShallBeTest {
    private static final int NONE = CowsOwed.NONE, UNKNOWN = CowsOwed.UNKNOWN, OUTSIDE = CowsOwed.OUTSIDE,
        STATE = CowsOwed.STATE, FULL = CowsOwed.FULL;
    private static final Due DUE = new Due("ShallBeTest");

    public static void main(String[] args) {
        plan();
        dream();
        order();
        orderOfLikeOnes();
        orderOfDebtsThatAre();
        orderRefuses();
        high();
        highIsByNumber();
        highOfDebtsThatAre();
        DUE.end();
    }

    private static CowsOwed planned(String hills, int... pairs) {
        CowsOwed x = Due.hills(hills);
        for (int i = 0; i + 1 < pairs.length; i += 2) {
            DUE.is("plan(" + pairs[i] + ", " + pairs[i + 1] + ")", x.plan(pairs[i], pairs[i + 1]), i / 2 + 1);
        }
        return x;
    }

    private static void ordered(String name, CowsOwed x, int owed, int... plans) {
        long before = x.digest();
        DUE.is(name + ": order(0)", x.order(0), owed);
        for (int i = 0; i < 4; i++) {
            DUE.is(name + ": order(" + (10 + i) + ")", x.order(10 + i), i < plans.length ? plans[i] : NONE);
        }
        DUE.is(name + ": order changes nothing", x.digest(), before);
    }

    private static void plan() {
        CowsOwed x = Due.hills("c1,c2,c3;2");
        int[][] wrong = {{0, 0}, {1, 1}, {3, 0}, {0, 3}, {-1, 2}, {2, -1}, {Integer.MIN_VALUE, 0}, {0, Integer.MAX_VALUE}};
        for (int[] pair : wrong) {
            DUE.refuses(x, "plan(" + pair[0] + ", " + pair[1] + ")", () -> x.plan(pair[0], pair[1]), UNKNOWN);
        }
        DUE.is("plan 1", x.plan(0, 1), 1);
        DUE.is("plan 2", x.plan(0, 1), 2);
        DUE.is("plan 3", x.plan(2, 1), 3);
        DUE.is("plan 4", x.plan(1, 2), 4);
        DUE.refuses(x, "plan 5", () -> x.plan(1, 2), FULL);
        DUE.refuses(x, "plan(1, 1) of 4", () -> x.plan(1, 1), UNKNOWN);
        DUE.is("count(6)", x.count(6), 4);
        DUE.is("no wedding was held", x.count(4), 0);
        DUE.is("no cow was led", x.clan(0, 1), 1);
    }

    private static void dream() {
        CowsOwed x = planned("c1,c2;2", 0, 1, 1, 0, 0, 1);
        DUE.is("dream()", x.dream(), 3);
        DUE.is("count(6)", x.count(6), 0);
        DUE.is("dream() again", x.dream(), 0);
        DUE.is("order(10) behind dream()", x.order(10), NONE);
        DUE.is("high() behind dream()", x.high(), 9);
        DUE.is("plan behind dream()", x.plan(0, 1), 1);
        DUE.is("order(10) of one", x.order(10), 0);
        DUE.is("order(11) of one", x.order(11), NONE);
    }

    private static void order() {
        ordered("none", planned("c0,c4;4"), 0);
        ordered("one", planned("c0,c4;4", 0, 1), 4, 0);
        ordered("two", planned("c0,c4;4", 0, 1, 1, 0), 0, 1, 0);
        ordered("round", planned("c0,c0,c0,c3;3", 0, 1, 1, 2, 2, 3, 3, 0), 0, 3, 0, 1, 2);
        ordered("round backwards", planned("c0,c0,c0,c3;3", 2, 3, 1, 2, 0, 1, 3, 0), 0, 3, 2, 1, 0);
        // the careful one in the ring keeps a cow, so that it and all behind it stay short of one
        ordered("careful", planned("c0,w0,c3;3", 0, 1, 1, 2, 2, 0), 1, 2, 0, 1);
        ordered("kings", planned("k0,c9,p2;2", 1, 0, 2, 0, 0, 2), 1, 0, 2, 1);
    }

    private static void orderOfLikeOnes() {
        ordered("all alike", planned("c9,c9;1", 0, 1, 1, 0, 0, 1, 1, 0), 0, 0, 1, 2, 3);
        ordered("all as bad", planned("c0,c0;2", 0, 1, 1, 0, 0, 1, 1, 0), 8, 0, 1, 2, 3);
        ordered("the first of the best", planned("c0,c8;4", 0, 1, 1, 0, 1, 0), 0, 1, 0, 2);
    }

    private static void orderOfDebtsThatAre() {
        CowsOwed x = Due.hills("c0,c4;4");
        x.wed(0, 1);
        x.plan(0, 1);
        x.plan(1, 0);
        ordered("with debts", x, 4, 1, 0);
        x.dream();
        ordered("debts alone", x, 4);
    }

    private static void orderRefuses() {
        CowsOwed x = planned("c0,c4;4", 0, 1);
        for (int what : new int[] {-1, 1, 2, 9, 14, 20, Integer.MIN_VALUE, Integer.MAX_VALUE}) {
            DUE.refuses(x, "order(" + what + ")", () -> x.order(what), OUTSIDE);
            DUE.is("order(" + what + ") without hills", new CowsOwed().order(what), OUTSIDE);
        }
        for (int what : new int[] {0, 10, 11, 12, 13}) {
            DUE.is("order(" + what + ") without hills", new CowsOwed().order(what), STATE);
        }
    }

    private static void highOf(String name, CowsOwed x, int want) {
        long before = x.digest();
        DUE.is(name + ": high()", x.high(), want);
        DUE.is(name + ": high() changes nothing", x.digest(), before);
    }

    private static void high() {
        DUE.is("high() without hills", new CowsOwed().high(), STATE);
        highOf("no plans", planned("c0,c0;1"), 9);
        highOf("all", planned("c9,c0;1", 0, 1), 9);
        highOf("some", planned("c5,c0;1", 0, 1), 5);
        highOf("proud", planned("c5,p0;1", 0, 1), 4);
        highOf("poor", planned("c5,o0;1", 0, 1), 6);
        highOf("kings", planned("c9,k0;1", 0, 1), 3);
        highOf("careful", planned("w5,c0;1", 0, 1), 4);
        highOf("the least", planned("c1,c0;5", 0, 1), 1);
        highOf("none", planned("c0,c0;1", 0, 1), NONE);
        highOf("two", planned("c9,c0,c0;1", 0, 1, 0, 2), 4);
        highOf("paid on", planned("c7,c0,c0;1", 0, 1, 1, 2), 7);
        // at rate 1 the careful one can't spare its only cow, at more it can
        highOf("not at the least", planned("c5,w0,o0;1", 0, 1, 1, 2), 5);
    }

    private static void highIsByNumber() {
        highOf("the payer first", planned("c0,c4;4", 0, 1, 1, 0), NONE);
        highOf("the payer last", planned("c0,c4;4", 1, 0, 0, 1), 4);
    }

    private static void highOfDebtsThatAre() {
        CowsOwed x = Due.hills("c0,c9;5");
        x.wed(0, 1);
        x.plan(1, 0);
        highOf("debts stay", x, 9);
        x.plan(0, 1);
        highOf("what came in pays, not the debt", x, 9);
        x.plan(0, 1);
        highOf("more would be owed", x, NONE);
        DUE.is("rate stays", x.count(1), 5);
    }
}
