/** Promises 9 to 13: wed, wedding, divorce, year, settled. */
final class WeddingsTest {
    private static final int UNKNOWN = CowsOwed.UNKNOWN, OUTSIDE = CowsOwed.OUTSIDE, STATE = CowsOwed.STATE,
        FULL = CowsOwed.FULL;
    private static final int LEAST = Integer.MIN_VALUE, GREATEST = Integer.MAX_VALUE;
    private static final Due DUE = new Due("WeddingsTest");

    public static void main(String[] args) {
        DUE.cases(WeddingsTest.class);
    }

    private static void herds(CowsOwed x, int... wanted) {
        for (int clan = 0; clan < wanted.length; clan++) {
            DUE.is("herd of " + clan, x.clan(clan, 1), wanted[clan]);
        }
    }

    private static void owes(CowsOwed x, int from, int to, int want) {
        DUE.is(from + " owes " + to, x.clan(from, 10 + to), want);
    }

    /** So many weddings, round three rich clans. */
    private static CowsOwed weddings(int many) {
        CowsOwed x = Due.hills("c9,c9,c9;1");
        for (int i = 0; i < many; i++) {
            x.wed(i % 3, (i + 1) % 3);
        }
        return x;
    }

    // ---- promise 9: wed

    static void promise09_wed_tellsItsNumberFrom0() {
        CowsOwed x = Due.hills("c5,p0;3");
        DUE.is("wed(0, 1)", x.wed(0, 1), 0);
        DUE.is("wed(0, 1) again", x.wed(0, 1), 1);
        DUE.is("wed(1, 0)", x.wed(1, 0), 2);
        DUE.is("count(4)", x.count(4), 3);
    }

    static void promise09_wed_paysAllWhenItsHerdIsMore() {
        CowsOwed x = Due.wedded("c4,c0;3", 0, 1);
        herds(x, 1, 3);
        owes(x, 0, 1, 0);
    }

    static void promise09_wed_paysAllWhenItsHerdIsJustEnough() {
        CowsOwed x = Due.wedded("c3,c0;3", 0, 1);
        herds(x, 0, 3);
        owes(x, 0, 1, 0);
    }

    static void promise09_wed_owesTheRestWhenItsHerdIsOneShort() {
        CowsOwed x = Due.wedded("c2,c0;3", 0, 1);
        herds(x, 0, 2);
        owes(x, 0, 1, 1);
        owes(x, 1, 0, 0);
    }

    static void promise09_wed_owesAllWithoutAHerd() {
        CowsOwed x = Due.wedded("c0,c0;3", 0, 1);
        herds(x, 0, 0);
        owes(x, 0, 1, 3);
    }

    static void promise09_wed_carefulKeepsOne() {
        CowsOwed enough = Due.wedded("w4,c0;3", 0, 1);
        herds(enough, 1, 3);
        owes(enough, 0, 1, 0);
        CowsOwed oneShort = Due.wedded("w3,c0;3", 0, 1);
        herds(oneShort, 1, 2);
        owes(oneShort, 0, 1, 1);
        CowsOwed one = Due.wedded("w1,c0;3", 0, 1);
        herds(one, 1, 0);
        owes(one, 0, 1, 3);
    }

    static void promise09_wed_carefulWithoutAHerdOwesAll() {
        CowsOwed x = Due.wedded("w0,c0;3", 0, 1);
        herds(x, 0, 0);
        owes(x, 0, 1, 3);
    }

    static void promise09_wed_owesBesidesWhatItOwed() {
        CowsOwed x = Due.wedded("c1,c0;3", 0, 1, 0, 1, 0, 1);
        owes(x, 0, 1, 8);
        DUE.is("count(3)", x.count(3), 8);
    }

    static void promise09_wed_debtsBothWaysStand() {
        CowsOwed x = Due.wedded("c0,c0;3", 0, 1, 1, 0);
        owes(x, 0, 1, 3);
        owes(x, 1, 0, 3);
    }

    static void promise09_wed_cowsThatComePayNoDebtAtOnce() {
        CowsOwed x = Due.wedded("c0,c3;3", 0, 1, 1, 0);
        herds(x, 3, 0);
        owes(x, 0, 1, 3);
    }

    static void promise09_wed_hersAsksNotHis() {
        CowsOwed x = Due.wedded("k9,o9;3", 0, 1);
        herds(x, 7, 11);
        x.wed(1, 0);
        herds(x, 15, 3);
    }

    static void promise09_wed_theTwelfthIsTheLast() {
        DUE.is("wed 12", weddings(11).wed(2, 0), 11);
        DUE.refuses(() -> weddings(12), "wed 13", x -> x.wed(0, 1), FULL);
        DUE.is("count(4)", weddings(12).count(4), 12);
    }

    static void promise09_wed_undoneOnesCountForFull() {
        DUE.refuses(() -> {
            CowsOwed x = weddings(12);
            x.divorce(0);
            x.divorce(11);
            return x;
        }, "wed 13", x -> x.wed(0, 1), FULL);
    }

    static void promise09_wed_fullEndsWithRestore() {
        CowsOwed x = weddings(11);
        x.image();
        x.wed(0, 1);
        DUE.is("wed 13", x.wed(0, 1), FULL);
        x.restore();
        DUE.is("wed 12 again", x.wed(0, 1), 11);
    }

    static void promise09_wed_fullEndsWithOtherHills() {
        CowsOwed x = weddings(12);
        Due.write(x, "c9,c9;1");
        x.hills();
        DUE.is("wed", x.wed(0, 1), 0);
    }

    static void promise09_wed_unknownHis() {
        DUE.is("wed(2, 0)", weddings(0).wed(2, 0), 0);
        for (int his : new int[] {LEAST, -1, 3, 4, GREATEST}) {
            DUE.refuses(() -> weddings(2), "wed(" + his + ", 0)", x -> x.wed(his, 0), UNKNOWN);
        }
    }

    static void promise09_wed_unknownHers() {
        DUE.is("wed(0, 2)", weddings(0).wed(0, 2), 0);
        for (int hers : new int[] {LEAST, -1, 3, 4, GREATEST}) {
            DUE.refuses(() -> weddings(2), "wed(0, " + hers + ")", x -> x.wed(0, hers), UNKNOWN);
        }
    }

    static void promise09_wed_ofTheSameIsUnknown() {
        for (int clan = 0; clan < 4; clan++) {
            int same = clan;
            DUE.refuses(Due::busy, "wed(" + clan + ", " + clan + ")", x -> x.wed(same, same), UNKNOWN);
        }
        DUE.refuses(Due::busy, "wed(4, 4)", x -> x.wed(4, 4), UNKNOWN);
    }

    static void promise09_wed_tellsUnknownAheadOfFull() {
        DUE.refuses(() -> weddings(12), "wed(3, 0)", x -> x.wed(3, 0), UNKNOWN);
        DUE.refuses(() -> weddings(12), "wed(0, 3)", x -> x.wed(0, 3), UNKNOWN);
        DUE.refuses(() -> weddings(12), "wed(1, 1)", x -> x.wed(1, 1), UNKNOWN);
    }

    // ---- promise 10: wedding

    static void promise10_wedding_tellsHisHersAndWhatWasAsked() {
        CowsOwed x = Due.hills("c9,k1,p0;2");
        x.wed(0, 1);
        x.rate(5);
        x.wed(1, 2);
        int[][] due = {{0, 1, 6, 0}, {1, 2, 6, 0}};
        for (int wedding = 0; wedding < 2; wedding++) {
            for (int what = 0; what < 4; what++) {
                DUE.is("wedding(" + wedding + ", " + what + ")", x.wedding(wedding, what), due[wedding][what]);
            }
        }
    }

    static void promise10_wedding_askedIsToldThoughNothingWasPaid() {
        DUE.is("wedding(0, 2)", Due.wedded("c0,k0;5", 0, 1).wedding(0, 2), 12);
    }

    static void promise10_wedding_tellsWhetherItIsUndone() {
        CowsOwed x = weddings(2);
        x.divorce(0);
        DUE.is("wedding(0, 3)", x.wedding(0, 3), 1);
        DUE.is("wedding(1, 3)", x.wedding(1, 3), 0);
    }

    static void promise10_wedding_undoneTellsWhatItWas() {
        CowsOwed x = Due.wedded("c9,k1;2", 0, 1);
        x.divorce(0);
        DUE.is("wedding(0, 0)", x.wedding(0, 0), 0);
        DUE.is("wedding(0, 1)", x.wedding(0, 1), 1);
        DUE.is("wedding(0, 2)", x.wedding(0, 2), 6);
        DUE.is("count(4)", x.count(4), 1);
    }

    static void promise10_wedding_unknownBeyondTheLast() {
        DUE.is("wedding(1, 0) of two", weddings(2).wedding(1, 0), 1);
        DUE.refuses(() -> weddings(2), "wedding(2, 0) of two", x -> x.wedding(2, 0), UNKNOWN);
        DUE.is("wedding(11, 0) of twelve", weddings(12).wedding(11, 0), 2);
        for (int wedding : new int[] {LEAST, -1, 12, GREATEST}) {
            DUE.refuses(() -> weddings(12), "wedding(" + wedding + ", 0)", x -> x.wedding(wedding, 0), UNKNOWN);
        }
        DUE.refuses(() -> weddings(0), "wedding(0, 0) of none", x -> x.wedding(0, 0), UNKNOWN);
    }

    static void promise10_wedding_whatIs0To3() {
        for (int what : new int[] {LEAST, -1, 4, GREATEST}) {
            DUE.refuses(Due::busy, "wedding(1, " + what + ")", x -> x.wedding(1, what), OUTSIDE);
        }
    }

    static void promise10_wedding_tellsUnknownAheadOfOutside() {
        DUE.refuses(Due::busy, "wedding(2, 4)", x -> x.wedding(2, 4), UNKNOWN);
        DUE.refuses(Due::busy, "wedding(-1, -1)", x -> x.wedding(-1, -1), UNKNOWN);
        DUE.refuses(CowsOwed::new, "wedding(0, 4)", x -> x.wedding(0, 4), UNKNOWN);
    }

    static void promise10_wedding_changesNothing() {
        for (int what = 0; what <= 3; what++) {
            int asked = what;
            DUE.changesNothing(Due::busy, "wedding(1, " + what + ")", x -> x.wedding(1, asked));
        }
    }

    // ---- promise 11: divorce

    static void promise11_divorce_paysAllWhenHerHerdIsMore() {
        CowsOwed x = Due.wedded("c9,k1;2", 0, 1);
        DUE.is("divorce(0)", x.divorce(0), 6);
        herds(x, 9, 1);
        DUE.is("count(3)", x.count(3), 0);
    }

    static void promise11_divorce_paysAllWhenHerHerdIsJustEnough() {
        CowsOwed x = Due.wedded("c6,k0;2", 0, 1);
        DUE.is("divorce(0)", x.divorce(0), 6);
        herds(x, 6, 0);
        owes(x, 1, 0, 0);
    }

    static void promise11_divorce_owesTheRestWhenHerHerdIsOneShort() {
        CowsOwed x = Due.wedded("c6,k0,c0;2", 0, 1);
        x.rate(1);
        x.wed(1, 2);
        DUE.is("divorce(0)", x.divorce(0), 5);
        herds(x, 5, 0, 1);
        owes(x, 1, 0, 1);
    }

    static void promise11_divorce_paysNothingWithoutAHerd() {
        CowsOwed x = Due.wedded("c5,c0,c0;5", 0, 1, 1, 2);
        DUE.is("divorce(0)", x.divorce(0), 0);
        herds(x, 0, 0, 5);
        owes(x, 1, 0, 5);
        DUE.is("wedding(0, 3)", x.wedding(0, 3), 1);
    }

    static void promise11_divorce_carefulKeepsOne() {
        CowsOwed x = Due.wedded("c3,w0;3", 0, 1);
        DUE.is("divorce(0)", x.divorce(0), 2);
        herds(x, 2, 1);
        owes(x, 1, 0, 1);
    }

    static void promise11_divorce_carefulWithoutAHerdPaysNothing() {
        CowsOwed x = Due.wedded("c0,w0;3", 0, 1);
        DUE.is("divorce(0)", x.divorce(0), 0);
        owes(x, 1, 0, 3);
    }

    static void promise11_divorce_callsBackWhatWasNeverPaid() {
        CowsOwed x = Due.wedded("c0,c4;4", 0, 1);
        DUE.is("divorce(0)", x.divorce(0), 4);
        herds(x, 4, 0);
        owes(x, 0, 1, 4);
    }

    static void promise11_divorce_callsBackWhatWasAskedThen() {
        CowsOwed x = Due.wedded("c9,k1;2", 0, 1);
        x.rate(9);
        DUE.is("divorce(0)", x.divorce(0), 6);
    }

    static void promise11_divorce_owesBesidesWhatItOwed() {
        CowsOwed x = Due.wedded("c0,c0;4", 0, 1, 1, 0);
        x.divorce(0);
        owes(x, 0, 1, 4);
        owes(x, 1, 0, 8);
    }

    static void promise11_divorce_ofOneUndoneIsState() {
        DUE.refuses(Due::busy, "divorce(1)", x -> x.divorce(1), STATE);
        DUE.is("divorce(0), not undone", Due.busy().divorce(0), 8);
    }

    static void promise11_divorce_ofOneUndoneWithNothingPaidIsState() {
        DUE.refuses(() -> {
            CowsOwed x = Due.wedded("c0,c0;4", 0, 1);
            x.divorce(0);
            return x;
        }, "divorce(0)", x -> x.divorce(0), STATE);
    }

    static void promise11_divorce_unknownBeyondTheLast() {
        DUE.is("divorce(11) of twelve", weddings(12).divorce(11), 1);
        DUE.is("divorce(0) of twelve", weddings(12).divorce(0), 1);
        for (int wedding : new int[] {LEAST, -1, 12, GREATEST}) {
            DUE.refuses(() -> weddings(12), "divorce(" + wedding + ")", x -> x.divorce(wedding), UNKNOWN);
        }
        DUE.refuses(() -> weddings(2), "divorce(2) of two", x -> x.divorce(2), UNKNOWN);
        DUE.refuses(() -> weddings(0), "divorce(0) of none", x -> x.divorce(0), UNKNOWN);
    }

    // ---- promise 12: year

    static void promise12_year_withoutHillsIsState() {
        DUE.refuses(CowsOwed::new, "year()", CowsOwed::year, STATE);
        DUE.refuses(() -> Due.page("c0,k1;4"), "year()", CowsOwed::year, STATE);
    }

    static void promise12_year_isCounted() {
        CowsOwed x = Due.hills("c0,c0;1");
        for (int year = 1; year <= 100; year++) {
            x.year();
            DUE.is("count(5)", x.count(5), year);
        }
    }

    static void promise12_year_growsByHalfRoundedDown() {
        int[] grown = {0, 1, 3, 4, 6, 7, 9, 10, 12, 13};
        for (int herd = 0; herd <= 9; herd++) {
            CowsOwed x = Due.hills("c" + herd + ",w" + herd + ";1");
            DUE.is("year()", x.year(), 0);
            herds(x, grown[herd], grown[herd]);
        }
    }

    /** Years make 9 cows 63 or 94, a wedding adds the rest. */
    private static void grows(int years, int more, int wanted) {
        CowsOwed x = Due.hills("c9,c9;1");
        Due.years(x, years);
        x.rate(more);
        x.wed(1, 0);
        int herd = x.clan(0, 1);
        x.year();
        DUE.is("a herd of " + herd + " then", x.clan(0, 1), wanted);
    }

    static void promise12_year_herd65GrowsTo97() {
        grows(5, 2, 97);
    }

    static void promise12_year_herd66GrowsTo99() {
        grows(5, 3, 99);
    }

    static void promise12_year_herd67GrowsTo99AtMost() {
        grows(5, 4, 99);
    }

    static void promise12_year_herd98GrowsTo99() {
        grows(6, 4, 99);
    }

    static void promise12_year_herd99Stays() {
        grows(6, 5, 99);
    }

    static void promise12_year_herd100Stays() {
        grows(6, 6, 100);
    }

    static void promise12_year_greaterHerdStays() {
        grows(6, 9, 103);
    }

    static void promise12_year_paymentsMayMakeAHerdGreater() {
        CowsOwed x = Due.wedded("c0,c9;5", 0, 1);
        Due.years(x, 7);
        herds(x, 0, 99);
        x.rate(4);
        x.wed(1, 0);
        DUE.is("year()", x.year(), 0);
        herds(x, 1, 104);
        x.year();
        herds(x, 1, 104);
    }

    /** Clan 0 owes clan 1 so much and has two cows, which a year makes three; the others have none. */
    private static CowsOwed twoCowsAndDebt(int debt) {
        CowsOwed x = Due.hills("c0,c2,c0;1");
        x.rate(debt);
        x.wed(0, 1);
        x.rate(2);
        x.wed(1, 0);
        return x;
    }

    static void promise12_year_growsAheadOfPaying() {
        CowsOwed x = twoCowsAndDebt(3);
        DUE.is("year()", x.year(), 0);
        herds(x, 0, 3, 0);
        owes(x, 0, 1, 0);
    }

    static void promise12_year_paysNoMoreThanIsOwed() {
        CowsOwed x = twoCowsAndDebt(2);
        DUE.is("year()", x.year(), 0);
        herds(x, 1, 2, 0);
    }

    static void promise12_year_owesOneWhenItsHerdIsOneShort() {
        CowsOwed x = twoCowsAndDebt(4);
        DUE.is("year()", x.year(), 1);
        herds(x, 0, 3, 0);
        owes(x, 0, 1, 1);
    }

    static void promise12_year_withoutACowAllStaysOwed() {
        CowsOwed x = Due.wedded("c0,c0,c0;5", 0, 1, 0, 2, 1, 2, 2, 0);
        DUE.is("year()", x.year(), 20);
        DUE.is("year() again", x.year(), 20);
    }

    static void promise12_year_paysOthersByNumber() {
        CowsOwed x = Due.wedded("c0,c2,c0;3", 0, 2, 0, 1);
        x.rate(2);
        x.wed(1, 0);
        DUE.is("year()", x.year(), 3);
        owes(x, 0, 1, 0);
        owes(x, 0, 2, 3);
    }

    static void promise12_year_whatIsLeftPaysTheNext() {
        CowsOwed x = Due.wedded("c0,c2,c0;2", 0, 2, 0, 1, 1, 0);
        DUE.is("year()", x.year(), 1);
        owes(x, 0, 1, 0);
        owes(x, 0, 2, 1);
        herds(x, 0, 2, 1);
    }

    static void promise12_year_aLaterClanPaysOnWhatCame() {
        CowsOwed x = twoCowsAndDebt(3);
        x.rate(3);
        x.wed(1, 2);
        DUE.is("owed ahead of it", x.count(3), 6);
        DUE.is("year()", x.year(), 0);
        herds(x, 0, 0, 3);
    }

    static void promise12_year_anEarlierClanPaysOnAYearLater() {
        CowsOwed x = Due.wedded("c0,c0,c0,c2;3", 2, 1, 1, 0);
        x.rate(2);
        x.wed(3, 2);
        DUE.is("year()", x.year(), 3);
        herds(x, 0, 3, 0, 0);
        owes(x, 1, 0, 3);
        DUE.is("year() again", x.year(), 0);
        herds(x, 3, 1, 0, 0);
    }

    static void promise12_year_carefulKeepsOne() {
        CowsOwed x = Due.wedded("w4,c0;5", 0, 1);
        owes(x, 0, 1, 2);
        DUE.is("one cow neither grows nor is spared", x.year(), 2);
        herds(x, 1, 4);
        x.rate(1);
        x.wed(1, 0);
        DUE.is("two cows are three, two are spared", x.year(), 0);
        herds(x, 1, 6);
    }

    // ---- promise 13: settled

    private static void settles(String text, int want, int... pairs) {
        DUE.is("settled() of " + text, Due.wedded(text, pairs).settled(), want);
    }

    static void promise13_settled_withoutHillsIsState() {
        DUE.refuses(CowsOwed::new, "settled()", CowsOwed::settled, STATE);
        DUE.refuses(() -> Due.page("c0,k1;4"), "settled()", CowsOwed::settled, STATE);
    }

    static void promise13_settled_ofNoDebtIs0() {
        settles("c0,c0,c0,c0;5", 0);
        settles("c9,c0;5", 0, 0, 1);
    }

    static void promise13_settled_ofOneDebtIsAllOfIt() {
        settles("c0,c0,c0,c0;5", 5, 0, 1);
        settles("c0,c0,c0,c0;5", 5, 3, 0);
        settles("c4,c0;5", 1, 0, 1);
    }

    static void promise13_settled_aChainIsLedOnce() {
        settles("c0,c0,c0;5", 5, 0, 1, 1, 2);
        settles("c0,c0,c0,c0;5", 5, 3, 2, 2, 1, 1, 0);
    }

    static void promise13_settled_aChainOfUnequalDebts() {
        settles("c0,c0,p0;5", 6, 0, 1, 1, 2);
        settles("c0,p0,c0;5", 6, 0, 1, 1, 2);
    }

    static void promise13_settled_aRingLeavesNothing() {
        settles("c0,c0;5", 0, 0, 1, 1, 0);
        settles("c0,c0,c0;5", 0, 0, 1, 1, 2, 2, 0);
        settles("c0,c0,c0,c0;5", 0, 0, 1, 1, 2, 2, 3, 3, 0);
    }

    static void promise13_settled_aRingLeavesWhatIsUnequal() {
        settles("c0,p0;5", 1, 0, 1, 1, 0);
        settles("c0,c0,k0;5", 7, 0, 1, 1, 2, 2, 0);
        settles("k0,o0;4", 7, 0, 1, 1, 0);
    }

    static void promise13_settled_twoRingsLeaveNothing() {
        settles("c0,c0,c0,c0;5", 0, 0, 1, 1, 0, 2, 3, 3, 2);
    }

    static void promise13_settled_manyToOneAndOneToMany() {
        settles("c0,c0,c0,c0;4", 12, 1, 0, 2, 0, 3, 0);
        settles("c0,c0,c0,c0;4", 12, 0, 1, 0, 2, 0, 3);
        settles("c0,c0,c0,c0;4", 8, 0, 1, 2, 3);
    }

    static void promise13_settled_ofTheDeepestDebt() {
        CowsOwed x = Due.hills("k0,c0;5");
        x.rate(9);
        for (int i = 0; i < 12; i++) {
            x.wed(1, 0);
        }
        DUE.is("settled()", x.settled(), 240);
    }

    static void promise13_settled_asIfEachHadEnough() {
        CowsOwed x = Due.wedded("c0,c9,c9;5", 0, 1);
        DUE.is("settled()", x.settled(), 5);
        x.wed(1, 0);
        herds(x, 5, 4, 9);
        DUE.is("settled() with a herd", x.settled(), 5);
    }

    static void promise13_settled_changesNothing() {
        DUE.changesNothing(Due::busy, "settled()", CowsOwed::settled);
    }
}
