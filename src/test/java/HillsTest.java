/** Promises 1 to 8: a new object; letter, blank, fault, hills, clan, as, rate. */
final class HillsTest {
    private static final int NONE = CowsOwed.NONE, UNKNOWN = CowsOwed.UNKNOWN, OUTSIDE = CowsOwed.OUTSIDE,
        STATE = CowsOwed.STATE, FULL = CowsOwed.FULL;
    private static final Due DUE = new Due("HillsTest");

    public static void main(String[] args) {
        newObject();
        letter();
        blank();
        fault();
        faultAtEachPlace();
        hills();
        hillsAreReadAnew();
        clan();
        clanOwes();
        as();
        rate();
        DUE.end();
    }

    private static void newObject() {
        CowsOwed x = new CowsOwed();
        for (int what = 0; what <= 9; what++) {
            DUE.is("new: count(" + what + ")", x.count(what), 0);
        }
        DUE.refuses(x, "new: clan(0, 0)", () -> x.clan(0, 0), UNKNOWN);
        DUE.refuses(x, "new: as(0, 0)", () -> x.as(0, 0), UNKNOWN);
        DUE.refuses(x, "new: rate(3)", () -> x.rate(3), STATE);
        DUE.refuses(x, "new: wed(0, 1)", () -> x.wed(0, 1), UNKNOWN);
        DUE.refuses(x, "new: wedding(0, 0)", () -> x.wedding(0, 0), UNKNOWN);
        DUE.refuses(x, "new: divorce(0)", () -> x.divorce(0), UNKNOWN);
        DUE.refuses(x, "new: year()", x::year, STATE);
        DUE.refuses(x, "new: settled()", x::settled, STATE);
        DUE.refuses(x, "new: plan(0, 1)", () -> x.plan(0, 1), UNKNOWN);
        DUE.refuses(x, "new: order(0)", () -> x.order(0), STATE);
        DUE.refuses(x, "new: high()", x::high, STATE);
        DUE.refuses(x, "new: ages(1, 0, 0)", () -> x.ages(1, 0, 0), STATE);
        DUE.refuses(x, "new: image()", x::image, STATE);
        DUE.refuses(x, "new: restore()", x::restore, STATE);
        DUE.refuses(x, "new: hills()", x::hills, STATE);
        DUE.is("new: fault()", x.fault(), 0);
        DUE.is("new: blank()", x.blank(), 0);
        DUE.is("new: dream()", x.dream(), 0);
        DUE.is("new: forget()", x.forget(), 0);
        DUE.is("new: which()", x.which(), 31);
        DUE.is("new: ask()", x.ask(), 2);
    }

    private static void letter() {
        CowsOwed x = new CowsOwed();
        DUE.refuses(x, "letter(0)", () -> x.letter(0), OUTSIDE);
        DUE.refuses(x, "letter(127)", () -> x.letter(127), OUTSIDE);
        DUE.refuses(x, "letter(-1)", () -> x.letter(-1), OUTSIDE);
        DUE.refuses(x, "letter(MIN)", () -> x.letter(Integer.MIN_VALUE), OUTSIDE);
        DUE.is("letter(1)", x.letter(1), 1);
        DUE.is("letter(126)", x.letter(126), 2);
        for (int size = 3; size <= 16; size++) {
            DUE.is("letter " + size, x.letter('c'), size);
        }
        DUE.refuses(x, "letter 17", () -> x.letter('c'), FULL);
        DUE.refuses(x, "letter(0) on a full page", () -> x.letter(0), OUTSIDE);
        DUE.is("count(8) of a full page", x.count(8), 16);
    }

    private static void blank() {
        CowsOwed x = Due.page("c1,p");
        DUE.is("blank()", x.blank(), 4);
        DUE.is("count(8) behind blank()", x.count(8), 0);
        DUE.is("blank() again", x.blank(), 0);
        DUE.is("letter behind blank()", x.letter('k'), 1);
        DUE.is("fault() behind blank()", x.fault(), 1);
    }

    private static void fault() {
        faultOf("c0,c0;1", 7);
        faultOf("k9,w8,o7,p6;5", 13);
        faultOf("c", 1);
        faultOf("c5", 2);
        faultOf("c5,", 3);
        faultOf("c5,p4,", 6);
        faultOf("c5,p4;", 6);
        faultOf("c5;", 2);
        faultOf("c5,p4,o3,w2,", 11);
        faultOf("c5,p4,o3,w2;", 12);
        faultOf("c5,p4;0", 6);
        faultOf("c5,p4;6", 6);
        faultOf("c5,p4;1;", 7);
        faultOf("c5,p4;12", 7);
        faultOf("C5,p4;1", 0);
        faultOf("cc,p4;1", 1);
        faultOf("c5p4;1", 2);
        faultOf("c5,;1", 3);
        faultOf("c5,x4;1", 3);
        faultOf("c5,p4,1", 6);
        faultOf(" c5,p4;1", 0);
        faultOf("xxxx", 0);
    }

    private static void faultOf(String text, int want) {
        CowsOwed x = Due.page(text);
        DUE.is("fault() of " + text, x.fault(), want);
        DUE.is("count(8) behind fault() of " + text, x.count(8), text.length());
    }

    /** Every code at every place of hills of four clans. */
    private static void faultAtEachPlace() {
        String text = "c0,p1,o2,k3;4";
        for (int place = 0; place < text.length(); place++) {
            for (int code = 1; code <= 126; code++) {
                CowsOwed x = Due.page(text.substring(0, place));
                x.letter(code);
                boolean may = mayStand(place, (char) code);
                DUE.is("fault() with " + code + " at " + place, x.fault(), may ? place + 1 : place);
            }
        }
    }

    private static boolean mayStand(int place, char code) {
        if (place == 12) {
            return "12345".indexOf(code) >= 0;
        }
        switch (place % 3) {
            case 0: return "cpowk".indexOf(code) >= 0;
            case 1: return "0123456789".indexOf(code) >= 0;
            default: return code == ',' && place < 11 || code == ';' && place > 2;
        }
    }

    private static void hills() {
        String[] none = {"", "c", "c0", "c0,", "c0,c", "c0,c0", "c0,c0;", "c0;1", "c0,c0;0", "c0,c0;6", "c0,c0;11",
            "c0,c0,c0,c0,c0;1", "c0,c0;1,", "d0,c0;1", "c0,c0,c0,c0", ";1", "c0,c0,;1"};
        for (String text : none) {
            CowsOwed x = Due.page(text);
            DUE.refuses(x, "hills() of " + text, x::hills, STATE);
            DUE.is("count(8) behind hills() of " + text, x.count(8), Math.min(16, text.length()));
            DUE.is("count(9) behind hills() of " + text, x.count(9), 0);
        }
        CowsOwed two = Due.page("c0,p9;1");
        DUE.is("hills() of two", two.hills(), 2);
        DUE.is("count(0)", two.count(0), 2);
        DUE.is("count(1)", two.count(1), 1);
        DUE.is("count(2)", two.count(2), 9);
        DUE.is("count(8)", two.count(8), 0);
        DUE.is("count(9)", two.count(9), 1);
        DUE.is("hills() of three", Due.page("o1,w2,k3;5").hills(), 3);
        CowsOwed four = Due.page("o1,w2,k3,c4;5");
        DUE.is("hills() of four", four.hills(), 4);
        DUE.is("count(1) of four", four.count(1), 5);
        DUE.is("clan(3, 1) of four", four.clan(3, 1), 4);
    }

    private static void hillsAreReadAnew() {
        CowsOwed x = Due.hills("c0,c1,k2;2");
        x.wed(0, 2);
        x.rate(5);
        x.wed(1, 0);
        x.divorce(0);
        x.plan(1, 2);
        x.tell(3, 4);
        x.year();
        x.image();
        Due.write(x, "p7,o8;3");
        DUE.is("hills() anew", x.hills(), 2);
        int[] counts = {2, 3, 15, 0, 0, 0, 0, 0, 0, 2};
        for (int what = 0; what < counts.length; what++) {
            DUE.is("anew: count(" + what + ")", x.count(what), counts[what]);
        }
        DUE.is("anew: which()", x.which(), 31);
        DUE.is("anew: clan(0, 0)", x.clan(0, 0), 1);
        DUE.is("anew: clan(1, 0)", x.clan(1, 0), 2);
        DUE.is("anew: clan(0, 12)", x.clan(0, 12), 0);
        DUE.is("anew: clan(1, 10)", x.clan(1, 10), 0);
        DUE.is("anew: settled()", x.settled(), 0);
        DUE.is("anew: clan(2, 0)", x.clan(2, 0), UNKNOWN);
        DUE.refuses(x, "anew: restore()", x::restore, STATE);
        DUE.refuses(x, "anew: wedding(0, 0)", () -> x.wedding(0, 0), UNKNOWN);
        Due.write(x, "p7,o8");
        DUE.refuses(x, "anew: hills() of no hills", x::hills, STATE);
        DUE.is("anew: wed(0, 1)", x.wed(0, 1), 0);
        DUE.is("anew: wedding(0, 3) is not undone", x.wedding(0, 3), 0);
    }

    private static void clan() {
        CowsOwed x = Due.hills("c5,p6,w7,k8;3");
        int[][] due = {{0, 5, 3, 5, 0, 0, 1005}, {1, 6, 4, 6, 0, 0, 1006}, {3, 7, 3, 6, 0, 0, 1007}, {4, 8, 8, 8, 0, 0, 1008}};
        for (int clan = 0; clan < 4; clan++) {
            for (int what = 0; what <= 6; what++) {
                DUE.is("clan(" + clan + ", " + what + ")", x.clan(clan, what), due[clan][what]);
            }
            for (int other = 10; other <= 13; other++) {
                DUE.is("clan(" + clan + ", " + other + ")", x.clan(clan, other), 0);
            }
        }
        for (int what : new int[] {-1, 7, 8, 9, 14, 15, 100, Integer.MIN_VALUE, Integer.MAX_VALUE}) {
            DUE.refuses(x, "clan(0, " + what + ")", () -> x.clan(0, what), OUTSIDE);
            DUE.refuses(x, "clan(4, " + what + ")", () -> x.clan(4, what), UNKNOWN);
            DUE.refuses(x, "clan(-1, " + what + ")", () -> x.clan(-1, what), UNKNOWN);
        }
        CowsOwed poor = Due.hills("o0,w0;1");
        DUE.is("a poor one asks 1 at least", poor.clan(0, 2), 1);
        DUE.is("a careful one without a herd spares nothing", poor.clan(1, 3), 0);
        poor.rate(2);
        DUE.is("a poor one asks 1 at rate 2", poor.clan(0, 2), 1);
        poor.rate(9);
        DUE.is("a poor one asks 8 at rate 9", poor.clan(0, 2), 8);
        DUE.is("a careful one asks 9 at rate 9", poor.clan(1, 2), 9);
        DUE.is("of two: what one owes clan 3", poor.clan(0, 13), 0);
    }

    private static void clanOwes() {
        CowsOwed x = Due.hills("c1,p2,k0;3");
        x.wed(0, 1);
        x.wed(0, 2);
        x.wed(1, 0);
        DUE.is("0 owes 1", x.clan(0, 11), 3);
        DUE.is("0 owes 2", x.clan(0, 12), 8);
        DUE.is("0 owes itself", x.clan(0, 10), 0);
        DUE.is("1 owes 0", x.clan(1, 10), 0);
        DUE.is("0 has", x.clan(0, 1), 3);
        DUE.is("1 has", x.clan(1, 1), 0);
        DUE.is("0 owes all", x.clan(0, 4), 11);
        DUE.is("all owe 0", x.clan(0, 5), 0);
        DUE.is("all owe 1", x.clan(1, 5), 3);
        DUE.is("all owe 2", x.clan(2, 5), 8);
        DUE.is("net of 0", x.clan(0, 6), 992);
        DUE.is("net of 1", x.clan(1, 6), 1003);
        DUE.is("net of 2", x.clan(2, 6), 1008);
    }

    private static void as() {
        String letters = "cpowk";
        boolean[][] is = {
            {true, false, false, false, false},
            {true, true, false, false, false},
            {true, false, true, false, false},
            {true, false, false, true, false},
            {true, true, false, false, true}};
        for (int own = 0; own < 5; own++) {
            CowsOwed x = Due.hills("c0," + letters.charAt(own) + "1;1");
            for (int kind = 0; kind < 5; kind++) {
                DUE.is(letters.charAt(own) + " as(1, " + kind + ")", x.as(1, kind), is[own][kind] ? 1 : NONE);
            }
            for (int kind : new int[] {-1, 5, 6, Integer.MIN_VALUE, Integer.MAX_VALUE}) {
                DUE.refuses(x, "as(0, " + kind + ")", () -> x.as(0, kind), OUTSIDE);
                DUE.refuses(x, "as(2, " + kind + ")", () -> x.as(2, kind), UNKNOWN);
            }
            DUE.refuses(x, "as(-1, 0)", () -> x.as(-1, 0), UNKNOWN);
            DUE.is("as(0, 0)", x.as(0, 0), 0);
        }
    }

    private static void rate() {
        CowsOwed x = Due.hills("c0,k1;4");
        DUE.is("rate(9)", x.rate(9), 4);
        DUE.is("count(1)", x.count(1), 9);
        DUE.is("kings ask at rate 9", x.clan(1, 2), 20);
        DUE.is("rate(1)", x.rate(1), 9);
        DUE.is("kings ask at rate 1", x.clan(1, 2), 4);
        for (int rate : new int[] {0, 10, -1, Integer.MIN_VALUE, Integer.MAX_VALUE}) {
            DUE.refuses(x, "rate(" + rate + ")", () -> x.rate(rate), OUTSIDE);
            DUE.is("rate(" + rate + ") without hills", new CowsOwed().rate(rate), OUTSIDE);
        }
        DUE.is("rate(1) without hills", new CowsOwed().rate(1), STATE);
    }
}
