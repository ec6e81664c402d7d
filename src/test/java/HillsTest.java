/** Promises 1 to 8: a new object; letter, blank, fault, hills, clan, as, rate. */
final class HillsTest {
    private static final int NONE = CowsOwed.NONE, UNKNOWN = CowsOwed.UNKNOWN, OUTSIDE = CowsOwed.OUTSIDE,
        STATE = CowsOwed.STATE, FULL = CowsOwed.FULL;
    private static final int LEAST = Integer.MIN_VALUE, GREATEST = Integer.MAX_VALUE;
    private static final String SIXTEEN = "c0,c0,c0,c0,c0;1";
    private static final Due DUE = new Due("HillsTest");

    public static void main(String[] args) {
        DUE.cases(HillsTest.class);
    }

    // ---- promise 1: a new object

    static void promise01_new_hasNothingOfAnything() {
        CowsOwed x = new CowsOwed();
        for (int what = 0; what <= 9; what++) {
            DUE.is("count(" + what + ")", x.count(what), 0);
        }
    }

    static void promise01_new_hasAnEmptyPage() {
        DUE.is("fault()", new CowsOwed().fault(), 0);
        DUE.is("blank()", new CowsOwed().blank(), 0);
    }

    static void promise01_new_hasNoPlansAndNothingTold() {
        DUE.is("dream()", new CowsOwed().dream(), 0);
        DUE.is("forget()", new CowsOwed().forget(), 0);
        DUE.is("which()", new CowsOwed().which(), 31);
        DUE.is("ask()", new CowsOwed().ask(), 2);
    }

    static void promise01_new_knowsNoClan() {
        for (int clan : new int[] {-1, 0, 1, 3}) {
            DUE.refuses(CowsOwed::new, "clan(" + clan + ", 0)", x -> x.clan(clan, 0), UNKNOWN);
            DUE.refuses(CowsOwed::new, "as(" + clan + ", 0)", x -> x.as(clan, 0), UNKNOWN);
        }
        DUE.refuses(CowsOwed::new, "wed(0, 1)", x -> x.wed(0, 1), UNKNOWN);
        DUE.refuses(CowsOwed::new, "plan(0, 1)", x -> x.plan(0, 1), UNKNOWN);
    }

    static void promise01_new_knowsNoWedding() {
        DUE.refuses(CowsOwed::new, "wedding(0, 0)", x -> x.wedding(0, 0), UNKNOWN);
        DUE.refuses(CowsOwed::new, "divorce(0)", x -> x.divorce(0), UNKNOWN);
    }

    static void promise01_new_refusesWhatNeedsHills() {
        DUE.refuses(CowsOwed::new, "hills()", CowsOwed::hills, STATE);
        DUE.refuses(CowsOwed::new, "rate(3)", x -> x.rate(3), STATE);
        DUE.refuses(CowsOwed::new, "year()", CowsOwed::year, STATE);
        DUE.refuses(CowsOwed::new, "settled()", CowsOwed::settled, STATE);
        DUE.refuses(CowsOwed::new, "order(0)", x -> x.order(0), STATE);
        DUE.refuses(CowsOwed::new, "high()", CowsOwed::high, STATE);
        DUE.refuses(CowsOwed::new, "ages(1, 0, 0)", x -> x.ages(1, 0, 0), STATE);
        DUE.refuses(CowsOwed::new, "image()", CowsOwed::image, STATE);
        DUE.refuses(CowsOwed::new, "restore()", CowsOwed::restore, STATE);
    }

    static void promise01_new_isOfNoOtherObject() {
        long before = new CowsOwed().digest();
        Due.busy();
        DUE.is("digest()", new CowsOwed().digest(), before);
    }

    // ---- promise 2: letter

    static void promise02_letter_tellsHowManyThePageHas() {
        CowsOwed x = new CowsOwed();
        for (int size = 1; size <= 16; size++) {
            DUE.is("letter " + size, x.letter('c'), size);
            DUE.is("count(8)", x.count(8), size);
        }
    }

    static void promise02_letter_comesBehindThePage() {
        CowsOwed x = new CowsOwed();
        x.letter('k');
        x.letter('7');
        DUE.is("fault() of k7", x.fault(), 2);
        x.blank();
        x.letter('7');
        x.letter('k');
        DUE.is("fault() of 7k", x.fault(), 0);
    }

    static void promise02_letter_code1IsTheLeast() {
        DUE.is("letter(1)", new CowsOwed().letter(1), 1);
        for (int code : new int[] {0, -1, -'c', LEAST}) {
            DUE.refuses(CowsOwed::new, "letter(" + code + ")", x -> x.letter(code), OUTSIDE);
            DUE.refuses(Due::busy, "letter(" + code + ")", x -> x.letter(code), OUTSIDE);
        }
    }

    static void promise02_letter_code126IsTheGreatest() {
        DUE.is("letter(126)", new CowsOwed().letter(126), 1);
        for (int code : new int[] {127, 128, 'c' + 256, 'c' + 65536, GREATEST}) {
            DUE.refuses(CowsOwed::new, "letter(" + code + ")", x -> x.letter(code), OUTSIDE);
            DUE.refuses(Due::busy, "letter(" + code + ")", x -> x.letter(code), OUTSIDE);
        }
    }

    static void promise02_letter_isTakenThoughNoHillsHaveIt() {
        for (int code = 1; code <= 126; code++) {
            DUE.is("letter(" + code + ")", new CowsOwed().letter(code), 1);
        }
    }

    static void promise02_letter_the16thIsTheLast() {
        DUE.is("letter 16", Due.page(SIXTEEN.substring(1)).letter(';'), 16);
        DUE.refuses(() -> Due.page(SIXTEEN), "letter 17", x -> x.letter('c'), FULL);
        DUE.refuses(() -> Due.page(SIXTEEN), "letter 17 of code 126", x -> x.letter(126), FULL);
    }

    static void promise02_letter_tellsOutsideAheadOfFull() {
        for (int code : new int[] {0, 127, LEAST, GREATEST}) {
            DUE.refuses(() -> Due.page(SIXTEEN), "letter(" + code + ")", x -> x.letter(code), OUTSIDE);
        }
    }

    static void promise02_letter_isTakenAgainBehindBlank() {
        CowsOwed x = Due.page(SIXTEEN);
        x.blank();
        DUE.is("letter", x.letter('c'), 1);
    }

    static void promise02_letter_isTakenAgainBehindHills() {
        CowsOwed x = Due.hills("c0,c0,c0,c0;1");
        for (int size = 1; size <= 16; size++) {
            DUE.is("letter " + size, x.letter('c'), size);
        }
        DUE.is("letter 17", x.letter('c'), FULL);
    }

    // ---- promise 3: blank

    static void promise03_blank_tellsHowManyLettersThereWere() {
        DUE.is("of none", new CowsOwed().blank(), 0);
        DUE.is("of one", Due.page("c").blank(), 1);
        DUE.is("of 16", Due.page(SIXTEEN).blank(), 16);
    }

    static void promise03_blank_leavesAnEmptyPage() {
        CowsOwed x = Due.page(SIXTEEN);
        x.blank();
        DUE.is("count(8)", x.count(8), 0);
        DUE.is("fault()", x.fault(), 0);
        DUE.is("blank() again", x.blank(), 0);
        DUE.is("hills()", x.hills(), STATE);
        DUE.is("digest()", x.digest(), new CowsOwed().digest());
    }

    static void promise03_blank_leavesTheHills() {
        CowsOwed x = Due.wedded("c5,k2;3", 0, 1);
        long before = x.digest();
        Due.write(x, "abc");
        DUE.is("blank()", x.blank(), 3);
        DUE.is("digest()", x.digest(), before);
        DUE.changesNothing(() -> Due.hills("c5,k2;3"), "blank() of none", CowsOwed::blank);
    }

    // ---- promise 4: fault

    private static void faultOf(String text, int want) {
        DUE.is("fault() of '" + text + "'", Due.page(text).fault(), want);
    }

    static void promise04_fault_ofAnEmptyPageIs0() {
        faultOf("", 0);
    }

    static void promise04_fault_ofHillsIsHowManyLettersThereAre() {
        faultOf("c0,c0;1", 7);
        faultOf("k9,w8,o7;3", 10);
        faultOf("k9,w8,o7,p6;5", 13);
    }

    static void promise04_fault_ofABeginningIsHowManyLettersThereAre() {
        for (String text : new String[] {"c0,p1;2", "c0,p1,o2;3", "c0,p1,o2,k3;4"}) {
            for (int end = 0; end < text.length(); end++) {
                faultOf(text.substring(0, end), end);
            }
        }
    }

    static void promise04_fault_everyCodeAtEveryPlace() {
        String text = "c0,p1,o2,k3;4";
        for (int place = 0; place < text.length(); place++) {
            for (int code = 1; code <= 126; code++) {
                CowsOwed x = Due.page(text.substring(0, place));
                x.letter(code);
                DUE.is("fault() with " + code + " at " + place, x.fault(), mayStand(place, (char) code) ? place + 1 : place);
            }
        }
    }

    private static boolean mayStand(int place, char code) {
        if (place == 12) {
            return "12345".indexOf(code) >= 0;
        }
        switch (place % 3) {
            case 0: return "cpowk".indexOf(code) >= 0;
            case 1: return "0123456789".indexOf(code) >= 0;
            default: return code == ',' && place < 11 || code == ';' && place > 2;
        }
    }

    static void promise04_fault_oneClanIsTooFew() {
        faultOf("c5;", 2);
        faultOf("c5,p4;", 6);
    }

    static void promise04_fault_aFifthClanIsTooMany() {
        faultOf("c5,p4,o3,", 9);
        faultOf("c5,p4,o3,w2,", 11);
        faultOf(SIXTEEN, 11);
    }

    static void promise04_fault_theRateIs1To5() {
        faultOf("c5,p4;0", 6);
        faultOf("c5,p4;1", 7);
        faultOf("c5,p4;5", 7);
        faultOf("c5,p4;6", 6);
        faultOf("c5,p4,o3;0", 9);
        faultOf("c5,p4,o3;6", 9);
        faultOf("c5,p4,o3,w2;0", 12);
        faultOf("c5,p4,o3,w2;6", 12);
    }

    static void promise04_fault_aLetterBehindTheRateIsOne() {
        for (String text : new String[] {"c5,p4;1", "c5,p4,o3;1", "c5,p4,o3,w2;1"}) {
            for (char more = 1; more <= 126; more++) {
                faultOf(text + more, text.length());
            }
        }
    }

    static void promise04_fault_isTheFirstOfSeveral() {
        faultOf("xxxx", 0);
        faultOf("cxx4;1", 1);
        faultOf("c5x4x1", 2);
        faultOf("c5,x4;6", 3);
        faultOf("c5;p4;6", 2);
    }

    static void promise04_fault_aLostLetterShiftsTheRest() {
        faultOf("5,p4;1", 0);
        faultOf("c,p4;1", 1);
        faultOf("c5p4;1", 2);
        faultOf("c5,4;1", 3);
        faultOf("c5,p;1", 4);
        faultOf("c5,p41", 5);
        faultOf("c5,;1", 3);
        faultOf(" c5,p4;1", 0);
    }

    static void promise04_fault_changesNothing() {
        DUE.changesNothing(() -> Due.page("c5,p4;6"), "fault()", CowsOwed::fault);
        DUE.changesNothing(() -> Due.page("c5,p4;5"), "fault()", CowsOwed::fault);
        DUE.changesNothing(Due::busy, "fault()", CowsOwed::fault);
    }

    // ---- promise 5: hills

    private static void noHills(String... texts) {
        for (String text : texts) {
            DUE.refuses(() -> Due.page(text), "hills() of '" + text + "'", CowsOwed::hills, STATE);
        }
    }

    static void promise05_hills_twoClansAreTheFewest() {
        noHills(";1", "c0;1", "c0,;1");
        CowsOwed x = Due.page("c0,p9;1");
        DUE.is("hills()", x.hills(), 2);
        DUE.is("count(0)", x.count(0), 2);
    }

    static void promise05_hills_fourClansAreTheMost() {
        DUE.is("hills() of three", Due.page("o1,w2,k3;5").hills(), 3);
        CowsOwed x = Due.page("o1,w2,k3,c4;5");
        DUE.is("hills() of four", x.hills(), 4);
        DUE.is("count(0)", x.count(0), 4);
        noHills(SIXTEEN, "c0,c0,c0,c0,;1");
    }

    static void promise05_hills_clansAreNumberedFrom0AsTheyStand() {
        CowsOwed x = Due.hills("o1,w2,k3,c4;5");
        int[] kinds = {2, 3, 4, 0};
        for (int clan = 0; clan < 4; clan++) {
            DUE.is("clan(" + clan + ", 0)", x.clan(clan, 0), kinds[clan]);
            DUE.is("clan(" + clan + ", 1)", x.clan(clan, 1), clan + 1);
        }
    }

    static void promise05_hills_herdIs0To9() {
        for (int herd = 0; herd <= 9; herd++) {
            CowsOwed x = Due.hills("c" + herd + ",k0;1");
            DUE.is("clan(0, 1)", x.clan(0, 1), herd);
            DUE.is("count(2)", x.count(2), herd);
        }
        noHills("c/,k0;1", "c:,k0;1", "c10,k0;1", "c-1,k0;1", "c,k0;1");
    }

    static void promise05_hills_rateIs1To5() {
        for (int rate = 1; rate <= 5; rate++) {
            DUE.is("count(1)", Due.hills("c0,k0;" + rate).count(1), rate);
        }
        noHills("c0,c0;0", "c0,c0;6", "c0,c0;9", "c0,c0;11", "c0,c0;");
    }

    static void promise05_hills_kindIsOneOfFiveLetters() {
        for (int code = 1; code <= 126; code++) {
            CowsOwed x = new CowsOwed();
            x.letter(code);
            Due.write(x, "0,c0;1");
            DUE.is("hills() with " + code, x.hills(), "cpowk".indexOf(code) >= 0 ? 2 : STATE);
        }
    }

    static void promise05_hills_ofAnEmptyPageAreNone() {
        noHills("");
    }

    static void promise05_hills_ofABeginningAreNone() {
        String text = "c0,p1,o2,k3;4";
        for (int end = 0; end < text.length(); end++) {
            noHills(text.substring(0, end));
        }
    }

    static void promise05_hills_withALetterTooManyAreNone() {
        noHills("c0,c0;1,", "c0,c0;1;", "c0,c0;1c", "c0,c0,c0;11", "c0,c0,c0,c0;11", " c0,c0;1", "c0,c0;1 ");
    }

    static void promise05_hills_leaveAnEmptyPage() {
        CowsOwed x = Due.hills("c0,p1,o2,k3;4");
        DUE.is("count(8)", x.count(8), 0);
        DUE.is("fault()", x.fault(), 0);
        DUE.is("hills() again", x.hills(), STATE);
        DUE.is("count(0)", x.count(0), 4);
    }

    static void promise05_hills_refusedKeepPageAndHills() {
        DUE.refuses(Due::busy, "hills()", CowsOwed::hills, STATE);
        CowsOwed x = Due.busy();
        x.hills();
        DUE.is("count(8)", x.count(8), 4);
        DUE.is("count(0)", x.count(0), 4);
        DUE.is("count(9)", x.count(9), 1);
        Due.write(x, "3;2");
        DUE.is("hills() of the whole page", x.hills(), 2);
    }

    /** What was busy, with other hills read since. */
    private static CowsOwed readAnew(String text) {
        CowsOwed x = Due.busy();
        x.blank();
        Due.write(x, text);
        x.hills();
        return x;
    }

    static void promise05_hills_othersAreGoneWithHerdsAndRate() {
        CowsOwed x = readAnew("p7,o8;5");
        DUE.is("count(0)", x.count(0), 2);
        DUE.is("count(1)", x.count(1), 5);
        DUE.is("count(2)", x.count(2), 15);
        DUE.is("clan(0, 0)", x.clan(0, 0), 1);
        DUE.is("clan(1, 0)", x.clan(1, 0), 2);
        DUE.is("clan(2, 0)", x.clan(2, 0), UNKNOWN);
    }

    /** Each owes each other one before. */
    static void promise05_hills_othersAreGoneWithWhatWasOwed() {
        CowsOwed x = Due.wedded("c0,c0,c0,c0;5", 0, 1, 0, 2, 0, 3, 1, 0, 1, 2, 1, 3, 2, 0, 2, 1, 2, 3, 3, 0, 3, 1, 3, 2);
        DUE.is("count(3) before", x.count(3), 60);
        Due.write(x, "p7,o8,c0,c0;5");
        x.hills();
        DUE.is("count(3)", x.count(3), 0);
        for (int clan = 0; clan < 4; clan++) {
            for (int to = 10; to <= 13; to++) {
                DUE.is("clan(" + clan + ", " + to + ")", x.clan(clan, to), 0);
            }
        }
        DUE.is("settled()", x.settled(), 0);
    }

    static void promise05_hills_whatWasOwedDoesNotComeBackWithMoreClans() {
        CowsOwed x = Due.wedded("c0,c0,c0,c0;5", 0, 3, 3, 2);
        Due.write(x, "c1,c1;1");
        x.hills();
        DUE.is("clan(0, 13) of two", x.clan(0, 13), 0);
        Due.write(x, "c1,c1,c1,c1;1");
        x.hills();
        DUE.is("clan(0, 13) of four", x.clan(0, 13), 0);
        DUE.is("clan(3, 12) of four", x.clan(3, 12), 0);
    }

    static void promise05_hills_othersAreGoneWithWeddings() {
        CowsOwed x = readAnew("p7,o8;5");
        DUE.is("count(4)", x.count(4), 0);
        DUE.is("wedding(0, 0)", x.wedding(0, 0), UNKNOWN);
        DUE.is("wed(0, 1)", x.wed(0, 1), 0);
        x.wed(0, 1);
        DUE.is("wedding(1, 3) was undone before", x.wedding(1, 3), 0);
    }

    static void promise05_hills_othersAreGoneWithYears() {
        DUE.is("count(5)", readAnew("p7,o8;5").count(5), 0);
        DUE.is("image()", readAnew("p7,o8;5").image(), 0);
    }

    static void promise05_hills_othersAreGoneWithPlans() {
        DUE.is("count(6)", readAnew("p7,o8;5").count(6), 0);
        DUE.is("order(10)", readAnew("p7,o8;5").order(10), NONE);
        DUE.is("dream()", readAnew("p7,o8;5").dream(), 0);
    }

    static void promise05_hills_othersAreGoneWithWhatWasTold() {
        DUE.is("count(7)", readAnew("p7,o8;5").count(7), 0);
        DUE.is("which()", readAnew("p7,o8;5").which(), 31);
        DUE.is("forget()", readAnew("p7,o8;5").forget(), 0);
    }

    static void promise05_hills_othersAreGoneWithTheImage() {
        DUE.refuses(() -> readAnew("p7,o8;5"), "restore()", CowsOwed::restore, STATE);
    }

    static void promise05_hills_ofTheSameTextAreReadAnew() {
        CowsOwed x = readAnew("w5,k2,o7,p0;3");
        DUE.is("count(2)", x.count(2), 14);
        DUE.is("count(3)", x.count(3), 0);
        DUE.is("count(9)", x.count(9), 2);
    }

    // ---- promise 6: clan

    static void promise06_clan_tellsKindsByTheLetter() {
        for (int kind = 0; kind < 5; kind++) {
            DUE.is("clan(1, 0)", Due.hills("c0," + "cpowk".charAt(kind) + "1;1").clan(1, 0), kind);
        }
    }

    private static void asks(char kind, int... wanted) {
        CowsOwed x = Due.hills("c0," + kind + "0;1");
        for (int rate = 1; rate <= 9; rate++) {
            x.rate(rate);
            DUE.is("a '" + kind + "' asks at rate " + rate, x.clan(1, 2), wanted[rate - 1]);
        }
    }

    static void promise06_clan_asksAsManyAsTheRate() {
        asks('c', 1, 2, 3, 4, 5, 6, 7, 8, 9);
    }

    static void promise06_clan_proudAsksOneMore() {
        asks('p', 2, 3, 4, 5, 6, 7, 8, 9, 10);
    }

    static void promise06_clan_poorAsksOneLessButOneAtLeast() {
        asks('o', 1, 1, 2, 3, 4, 5, 6, 7, 8);
    }

    static void promise06_clan_carefulAsksAsAClan() {
        asks('w', 1, 2, 3, 4, 5, 6, 7, 8, 9);
    }

    static void promise06_clan_kingsAskTwiceAsManyAsAProudOne() {
        asks('k', 4, 6, 8, 10, 12, 14, 16, 18, 20);
    }

    static void promise06_clan_sparesAllOfItsHerd() {
        for (char kind : "cpok".toCharArray()) {
            for (int herd = 0; herd <= 9; herd++) {
                DUE.is(kind + " of " + herd, Due.hills("c0," + kind + herd + ";1").clan(1, 3), herd);
            }
        }
    }

    static void promise06_clan_carefulSparesAllButOne() {
        int[] spared = {0, 0, 1, 2, 3, 4, 5, 6, 7, 8};
        for (int herd = 0; herd <= 9; herd++) {
            DUE.is("w of " + herd, Due.hills("c0,w" + herd + ";1").clan(1, 3), spared[herd]);
        }
    }

    /** 0 owes 1 three and 2 eight; 1 has paid 0 three at once. */
    private static CowsOwed owing() {
        return Due.wedded("c1,p2,k0;3", 0, 1, 0, 2, 1, 0);
    }

    static void promise06_clan_owesEachAndAll() {
        CowsOwed x = owing();
        int[][] due = {{0, 3, 8, 0}, {0, 0, 0, 0}, {0, 0, 0, 0}};
        for (int clan = 0; clan < 3; clan++) {
            for (int to = 0; to < 4; to++) {
                DUE.is("clan(" + clan + ", " + (10 + to) + ")", x.clan(clan, 10 + to), due[clan][to]);
            }
        }
        int[] owes = {11, 0, 0};
        int[] owed = {0, 3, 8};
        for (int clan = 0; clan < 3; clan++) {
            DUE.is("clan(" + clan + ", 4)", x.clan(clan, 4), owes[clan]);
            DUE.is("clan(" + clan + ", 5)", x.clan(clan, 5), owed[clan]);
        }
    }

    static void promise06_clan_owesNothingToAClanThatIsNot() {
        CowsOwed two = Due.wedded("c0,c0;5", 0, 1, 1, 0);
        DUE.is("clan(0, 12) of two", two.clan(0, 12), 0);
        DUE.is("clan(0, 13) of two", two.clan(0, 13), 0);
        DUE.is("clan(2, 13) of three", Due.wedded("c0,c0,c0;5", 2, 1).clan(2, 13), 0);
    }

    static void promise06_clan_owesTheFourthOne() {
        CowsOwed x = Due.wedded("c0,c0,c0,c0;5", 0, 3, 3, 0);
        DUE.is("clan(0, 13)", x.clan(0, 13), 5);
        DUE.is("clan(3, 10)", x.clan(3, 10), 5);
        DUE.is("clan(3, 13)", x.clan(3, 13), 0);
    }

    static void promise06_clan_netIsTheHerdAnd1000AtFirst() {
        CowsOwed x = Due.hills("c0,w9;3");
        DUE.is("clan(0, 6)", x.clan(0, 6), 1000);
        DUE.is("clan(1, 6)", x.clan(1, 6), 1009);
    }

    static void promise06_clan_netCountsWhatIsOwedBothWays() {
        CowsOwed x = owing();
        DUE.is("clan(0, 6)", x.clan(0, 6), 992);
        DUE.is("clan(1, 6)", x.clan(1, 6), 1003);
        DUE.is("clan(2, 6)", x.clan(2, 6), 1008);
    }

    static void promise06_clan_netOfTheDeepestDebt() {
        CowsOwed x = Due.hills("c0,k0;5");
        x.rate(9);
        for (int i = 0; i < 12; i++) {
            x.wed(0, 1);
        }
        DUE.is("clan(0, 4)", x.clan(0, 4), 240);
        DUE.is("clan(1, 5)", x.clan(1, 5), 240);
        DUE.is("clan(0, 6)", x.clan(0, 6), 760);
        DUE.is("clan(1, 6)", x.clan(1, 6), 1240);
    }

    static void promise06_clan_whatIs0To6And10To13() {
        CowsOwed x = Due.hills("k8,c0;3");
        int[] due = {4, 8, 8, 8, 0, 0, 1008, OUTSIDE, OUTSIDE, OUTSIDE, 0, 0, 0, 0};
        for (int what = 0; what < due.length; what++) {
            DUE.is("clan(0, " + what + ")", x.clan(0, what), due[what]);
        }
        for (int what : new int[] {LEAST, -1, 7, 8, 9, 14, 1000, GREATEST}) {
            DUE.refuses(Due::busy, "clan(3, " + what + ")", y -> y.clan(3, what), OUTSIDE);
        }
    }

    static void promise06_clan_unknownBeyondTheLast() {
        String[] texts = {"c1,c1;1", "c1,c1,c1;1", "c1,c1,c1,c1;1"};
        for (int clans = 2; clans <= 4; clans++) {
            String text = texts[clans - 2];
            int beyond = clans;
            DUE.is("clan(" + (clans - 1) + ", 1)", Due.hills(text).clan(clans - 1, 1), 1);
            DUE.refuses(() -> Due.hills(text), "clan(" + beyond + ", 1)", x -> x.clan(beyond, 1), UNKNOWN);
        }
        for (int clan : new int[] {LEAST, -1, 4, GREATEST}) {
            DUE.refuses(Due::busy, "clan(" + clan + ", 1)", x -> x.clan(clan, 1), UNKNOWN);
        }
    }

    static void promise06_clan_tellsUnknownAheadOfOutside() {
        for (int what : new int[] {-1, 7, 9, 14}) {
            DUE.refuses(Due::busy, "clan(4, " + what + ")", x -> x.clan(4, what), UNKNOWN);
            DUE.refuses(Due::busy, "clan(-1, " + what + ")", x -> x.clan(-1, what), UNKNOWN);
            DUE.refuses(CowsOwed::new, "clan(0, " + what + ")", x -> x.clan(0, what), UNKNOWN);
        }
    }

    static void promise06_clan_changesNothing() {
        for (int what = 0; what <= 13; what++) {
            int asked = what;
            DUE.changesNothing(Due::busy, "clan(0, " + what + ")", x -> x.clan(0, asked));
        }
    }

    // ---- promise 7: as

    private static void isOf(char letter, int... kinds) {
        CowsOwed x = Due.hills("c0," + letter + "1;1");
        for (int kind = 0; kind < 5; kind++) {
            DUE.is(letter + ": as(1, " + kind + ")", x.as(1, kind), kinds[kind] == 1 ? 1 : NONE);
        }
    }

    static void promise07_as_allAreClans() {
        CowsOwed x = Due.hills("p0,o0,w0,k0;1");
        for (int clan = 0; clan < 4; clan++) {
            DUE.is("as(" + clan + ", 0)", x.as(clan, 0), clan);
        }
        isOf('c', 1, 0, 0, 0, 0);
    }

    static void promise07_as_proudIsNoKings() {
        isOf('p', 1, 1, 0, 0, 0);
    }

    static void promise07_as_kingsAreProudToo() {
        isOf('k', 1, 1, 0, 0, 1);
    }

    static void promise07_as_poorIsPoorAlone() {
        isOf('o', 1, 0, 1, 0, 0);
    }

    static void promise07_as_carefulIsCarefulAlone() {
        isOf('w', 1, 0, 0, 1, 0);
    }

    static void promise07_as_kindIs0To4() {
        DUE.is("as(0, 0)", Due.hills("k0,c0;1").as(0, 0), 0);
        DUE.is("as(0, 4)", Due.hills("k0,c0;1").as(0, 4), 0);
        for (int kind : new int[] {LEAST, -1, 5, GREATEST}) {
            DUE.refuses(Due::busy, "as(1, " + kind + ")", x -> x.as(1, kind), OUTSIDE);
        }
    }

    static void promise07_as_unknownBeyondTheLast() {
        DUE.is("as(1, 0) of two", Due.hills("k0,c0;1").as(1, 0), 1);
        DUE.refuses(() -> Due.hills("k0,c0;1"), "as(2, 0) of two", x -> x.as(2, 0), UNKNOWN);
        DUE.is("as(3, 0) of four", Due.busy().as(3, 0), 3);
        for (int clan : new int[] {LEAST, -1, 4, GREATEST}) {
            DUE.refuses(Due::busy, "as(" + clan + ", 0)", x -> x.as(clan, 0), UNKNOWN);
        }
    }

    static void promise07_as_tellsUnknownAheadOfOutside() {
        DUE.refuses(Due::busy, "as(4, 5)", x -> x.as(4, 5), UNKNOWN);
        DUE.refuses(Due::busy, "as(-1, -1)", x -> x.as(-1, -1), UNKNOWN);
        DUE.refuses(CowsOwed::new, "as(0, 5)", x -> x.as(0, 5), UNKNOWN);
    }

    static void promise07_as_changesNothing() {
        DUE.changesNothing(Due::busy, "as(1, 1)", x -> x.as(1, 1));
        DUE.changesNothing(Due::busy, "as(0, 1), a cast that fails", x -> x.as(0, 1));
    }

    // ---- promise 8: rate

    static void promise08_rate_tellsHowMuchItWas() {
        CowsOwed x = Due.hills("c0,k1;4");
        DUE.is("rate(7)", x.rate(7), 4);
        DUE.is("rate(7) again", x.rate(7), 7);
        DUE.is("rate(2)", x.rate(2), 7);
        DUE.is("count(1)", x.count(1), 2);
    }

    static void promise08_rate_1IsTheLeast() {
        CowsOwed x = Due.hills("c0,k1;4");
        DUE.is("rate(1)", x.rate(1), 4);
        DUE.is("count(1)", x.count(1), 1);
        for (int rate : new int[] {LEAST, -1, 0}) {
            DUE.refuses(Due::busy, "rate(" + rate + ")", y -> y.rate(rate), OUTSIDE);
        }
    }

    static void promise08_rate_9IsTheGreatest() {
        CowsOwed x = Due.hills("c0,k1;4");
        DUE.is("rate(9)", x.rate(9), 4);
        DUE.is("count(1)", x.count(1), 9);
        for (int rate : new int[] {10, 11, GREATEST}) {
            DUE.refuses(Due::busy, "rate(" + rate + ")", y -> y.rate(rate), OUTSIDE);
        }
    }

    static void promise08_rate_withoutHillsIsState() {
        DUE.refuses(CowsOwed::new, "rate(1)", x -> x.rate(1), STATE);
        DUE.refuses(() -> Due.page("c0,k1;4"), "rate(9)", x -> x.rate(9), STATE);
    }

    static void promise08_rate_tellsOutsideAheadOfState() {
        DUE.refuses(CowsOwed::new, "rate(0)", x -> x.rate(0), OUTSIDE);
        DUE.refuses(CowsOwed::new, "rate(10)", x -> x.rate(10), OUTSIDE);
    }

    static void promise08_rate_leavesWhatWasAskedBefore() {
        CowsOwed x = Due.wedded("c3,k0;1", 0, 1);
        x.rate(9);
        DUE.is("wedding(0, 2)", x.wedding(0, 2), 4);
        DUE.is("clan(0, 11)", x.clan(0, 11), 1);
        DUE.is("clan(1, 2)", x.clan(1, 2), 20);
    }
}
