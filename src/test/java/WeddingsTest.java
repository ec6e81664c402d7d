/** Promises 9 to 13: wed, wedding, divorce, year, settled. */
final class WeddingsTest {
    private static final int UNKNOWN = CowsOwed.UNKNOWN, OUTSIDE = CowsOwed.OUTSIDE, STATE = CowsOwed.STATE,
        FULL = CowsOwed.FULL;
    private static final Due DUE = new Due("WeddingsTest");

    public static void main(String[] args) {
        wed();
        wedByACarefulOne();
        wedRefuses();
        wedding();
        divorce();
        divorceOwesAsAlive();
        year();
        yearPaysByNumber();
        yearOfACarefulOne();
        yearGrowth();
        settled();
        DUE.end();
    }

    private static void wed() {
        CowsOwed x = Due.hills("c5,p0,o2;3");
        DUE.is("wed(0, 1)", x.wed(0, 1), 0);
        DUE.is("herd of 0", x.clan(0, 1), 1);
        DUE.is("herd of 1", x.clan(1, 1), 4);
        DUE.is("nothing is owed", x.count(3), 0);
        DUE.is("wed(0, 1) again", x.wed(0, 1), 1);
        DUE.is("0 has paid all", x.clan(0, 1), 0);
        DUE.is("0 owes 1 the rest", x.clan(0, 11), 3);
        DUE.is("wed(0, 1) once more", x.wed(0, 1), 2);
        DUE.is("0 owes 1 besides", x.clan(0, 11), 7);
        DUE.is("wed(1, 0): debts do not pay", x.wed(1, 0), 3);
        DUE.is("0 owes 1 as much", x.clan(0, 11), 7);
        DUE.is("0 has what 1 paid", x.clan(0, 1), 3);
        DUE.is("wed(1, 2) of a poor one", x.wed(1, 2), 4);
        DUE.is("2 has", x.clan(2, 1), 4);
        DUE.is("count(4)", x.count(4), 5);
    }

    private static void wedByACarefulOne() {
        CowsOwed x = Due.hills("w3,c0;5");
        x.wed(0, 1);
        DUE.is("a careful one keeps one", x.clan(0, 1), 1);
        DUE.is("a careful one owes", x.clan(0, 11), 3);
        CowsOwed none = Due.hills("w0,c0;5");
        none.wed(0, 1);
        DUE.is("a careful one without a herd", none.clan(0, 1), 0);
        DUE.is("owes all of it", none.clan(0, 11), 5);
    }

    private static void wedRefuses() {
        CowsOwed x = Due.hills("c9,c9,c9;1");
        int[][] wrong = {{0, 0}, {2, 2}, {3, 0}, {0, 3}, {-1, 0}, {0, -1}, {Integer.MAX_VALUE, 1}, {1, Integer.MIN_VALUE}};
        for (int[] pair : wrong) {
            DUE.refuses(x, "wed(" + pair[0] + ", " + pair[1] + ")", () -> x.wed(pair[0], pair[1]), UNKNOWN);
        }
        for (int i = 0; i < 12; i++) {
            DUE.is("wed " + i, x.wed(i % 3, (i + 1) % 3), i);
        }
        DUE.refuses(x, "wed 12", () -> x.wed(0, 1), FULL);
        DUE.refuses(x, "wed(1, 1) of 12", () -> x.wed(1, 1), UNKNOWN);
        x.divorce(3);
        DUE.refuses(x, "wed 12, one undone", () -> x.wed(0, 1), FULL);
        DUE.is("count(4)", x.count(4), 12);
    }

    private static void wedding() {
        CowsOwed x = Due.hills("c9,k1,p0;2");
        x.wed(0, 1);
        x.rate(5);
        x.wed(1, 2);
        int[][] due = {{0, 1, 6, 0}, {1, 2, 6, 0}};
        for (int wedding = 0; wedding < 2; wedding++) {
            for (int what = 0; what < 4; what++) {
                DUE.is("wedding(" + wedding + ", " + what + ")", x.wedding(wedding, what), due[wedding][what]);
            }
        }
        x.divorce(0);
        DUE.is("wedding(0, 3) undone", x.wedding(0, 3), 1);
        DUE.is("wedding(1, 3) not undone", x.wedding(1, 3), 0);
        DUE.is("wedding(0, 2) undone", x.wedding(0, 2), 6);
        for (int what : new int[] {-1, 4, Integer.MIN_VALUE, Integer.MAX_VALUE}) {
            DUE.refuses(x, "wedding(1, " + what + ")", () -> x.wedding(1, what), OUTSIDE);
            DUE.refuses(x, "wedding(2, " + what + ")", () -> x.wedding(2, what), UNKNOWN);
        }
        DUE.refuses(x, "wedding(-1, 0)", () -> x.wedding(-1, 0), UNKNOWN);
        DUE.refuses(x, "wedding(12, 0)", () -> x.wedding(12, 0), UNKNOWN);
        DUE.refuses(x, "wedding(MAX, 0)", () -> x.wedding(Integer.MAX_VALUE, 0), UNKNOWN);
    }

    private static void divorce() {
        CowsOwed x = Due.hills("c9,k1,c0;2");
        x.wed(0, 1);
        x.rate(9);
        DUE.is("divorce(0) calls back what was asked then", x.divorce(0), 6);
        DUE.is("0 has its herd again", x.clan(0, 1), 9);
        DUE.is("1 has its herd again", x.clan(1, 1), 1);
        DUE.refuses(x, "divorce(0) again", () -> x.divorce(0), STATE);
        DUE.refuses(x, "divorce(1)", () -> x.divorce(1), UNKNOWN);
        DUE.refuses(x, "divorce(-1)", () -> x.divorce(-1), UNKNOWN);
        DUE.refuses(x, "divorce(MIN)", () -> x.divorce(Integer.MIN_VALUE), UNKNOWN);
        DUE.refuses(x, "divorce(MAX)", () -> x.divorce(Integer.MAX_VALUE), UNKNOWN);
    }

    private static void divorceOwesAsAlive() {
        CowsOwed x = Due.hills("c5,w2,c0;5");
        x.wed(0, 1);
        x.wed(1, 2);
        DUE.is("1 paid on", x.clan(1, 1), 2);
        DUE.is("divorce(0)", x.divorce(0), 1);
        DUE.is("1 keeps one", x.clan(1, 1), 1);
        DUE.is("1 owes the rest", x.clan(1, 10), 4);
        DUE.is("wedding(0, 3)", x.wedding(0, 3), 1);
        CowsOwed unpaid = Due.hills("c0,c0;4");
        unpaid.wed(0, 1);
        DUE.is("divorce(0) of what was never paid", unpaid.divorce(0), 0);
        DUE.is("it is owed besides", unpaid.clan(1, 10), 4);
        DUE.is("as is the first", unpaid.clan(0, 11), 4);
    }

    private static void year() {
        CowsOwed x = Due.hills("c9,c1,c0;5");
        DUE.is("year()", x.year(), 0);
        DUE.is("9 and half of it", x.clan(0, 1), 13);
        DUE.is("1 and half of it", x.clan(1, 1), 1);
        DUE.is("0 and half of it", x.clan(2, 1), 0);
        DUE.is("count(5)", x.count(5), 1);
        x.wed(1, 0);
        DUE.is("1 owes 0", x.clan(1, 10), 4);
        DUE.is("year() with debts", x.year(), 4);
        DUE.is("count(5) again", x.count(5), 2);
        DUE.is("year() without hills", new CowsOwed().year(), STATE);
    }

    /** 0 owes 1 and 2, pays 1 first; 1 pays on in the same year; 2 pays 0, which is too late for 0. */
    private static void yearPaysByNumber() {
        CowsOwed x = Due.hills("c0,c0,c0;5");
        x.wed(0, 1);
        x.wed(0, 2);
        x.wed(1, 2);
        x.wed(2, 0);
        DUE.is("all is owed", x.count(3), 20);
        DUE.is("year() without cows", x.year(), 20);

        CowsOwed y = Due.hills("c4,c0,c0,c4;5");
        y.wed(0, 3);
        y.wed(0, 1);
        y.wed(0, 2);
        y.wed(1, 2);
        y.wed(2, 0);
        y.rate(4);
        y.wed(3, 0);
        DUE.is("herd of 0", y.clan(0, 1), 4);
        DUE.is("herd of 3", y.clan(3, 1), 4);
        DUE.is("owed before", y.count(3), 21);
        DUE.is("year()", y.year(), 5);
        DUE.is("0 has", y.clan(0, 1), 5);
        DUE.is("1 has", y.clan(1, 1), 0);
        DUE.is("2 has", y.clan(2, 1), 1);
        DUE.is("3 has", y.clan(3, 1), 6);
        DUE.is("0 owes 1", y.clan(0, 11), 0);
        DUE.is("0 owes 2", y.clan(0, 12), 4);
        DUE.is("0 owes 3", y.clan(0, 13), 1);
        DUE.is("1 owes 2", y.clan(1, 12), 0);
        DUE.is("2 owes 0", y.clan(2, 10), 0);
    }

    private static void yearOfACarefulOne() {
        CowsOwed x = Due.hills("w4,c0;5");
        x.wed(0, 1);
        DUE.is("owed", x.clan(0, 11), 2);
        DUE.is("year(): one cow does not grow and is not spared", x.year(), 2);
        DUE.is("it keeps one", x.clan(0, 1), 1);
        x.rate(4);
        x.wed(1, 0);
        DUE.is("it has", x.clan(0, 1), 5);
        DUE.is("year() pays", x.year(), 0);
        DUE.is("it has then", x.clan(0, 1), 5);
    }

    private static void yearGrowth() {
        CowsOwed x = Due.hills("c9,c8;5");
        int[] first = {13, 19, 28, 42, 63, 94, 99, 99};
        int[] second = {12, 18, 27, 40, 60, 90, 99, 99};
        for (int i = 0; i < first.length; i++) {
            x.year();
            DUE.is("herd of 0 in year " + i, x.clan(0, 1), first[i]);
            DUE.is("herd of 1 in year " + i, x.clan(1, 1), second[i]);
        }
        x.wed(0, 1);
        x.year();
        DUE.is("one that is greater stays", x.clan(1, 1), 104);
        DUE.is("the other one grows to 99 at most", x.clan(0, 1), 99);
        DUE.is("count(5)", x.count(5), 9);
    }

    private static void settled() {
        DUE.is("settled() without hills", new CowsOwed().settled(), STATE);
        CowsOwed x = Due.hills("c0,c0,c0,c0;5");
        DUE.is("settled() of nothing", x.settled(), 0);
        x.wed(0, 1);
        DUE.is("settled() of one", x.settled(), 5);
        x.wed(1, 2);
        DUE.is("settled() of a chain: from its first to its last", x.settled(), 5);
        x.wed(2, 0);
        DUE.is("settled() of a ring", x.settled(), 0);
        DUE.is("owed of a ring", x.count(3), 15);
        x.rate(3);
        x.wed(0, 3);
        x.wed(1, 3);
        DUE.is("settled() of two to one", x.settled(), 6);
        x.rate(4);
        x.wed(3, 2);
        DUE.is("settled() of what is left", x.settled(), 6);
        DUE.is("settled() changes nothing", x.count(3), 25);
        CowsOwed first = Due.hills("c0,c0,c0;4");
        first.wed(1, 0);
        first.wed(2, 0);
        DUE.is("settled() of all to the first", first.settled(), 8);
        CowsOwed back = Due.hills("c0,c0;4");
        back.wed(0, 1);
        back.rate(1);
        back.wed(1, 0);
        DUE.is("settled() of two that owe each other", back.settled(), 3);
    }
}
