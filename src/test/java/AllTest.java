import java.math.BigInteger;

/** Promises 23 to 26: image, restore, count, digest. */
final class AllTest {
    private static final int OUTSIDE = CowsOwed.OUTSIDE, STATE = CowsOwed.STATE;
    private static final int LEAST = Integer.MIN_VALUE, GREATEST = Integer.MAX_VALUE;
    private static final Due DUE = new Due("AllTest");

    public static void main(String[] args) {
        DUE.cases(AllTest.class);
    }

    /** Hills with an image of all that was, and then something else of everything. */
    private static CowsOwed changedSinceItsImage() {
        CowsOwed x = Due.busy();
        x.image();
        x.divorce(0);
        x.rate(9);
        x.wed(3, 1);
        x.year();
        x.dream();
        x.plan(0, 1);
        x.plan(0, 2);
        x.plan(0, 3);
        x.forget();
        x.tell(5, 5);
        x.tell(5, 6);
        return x;
    }

    private static CowsOwed restored() {
        CowsOwed x = changedSinceItsImage();
        x.restore();
        return x;
    }

    // ---- promise 23: image

    static void promise23_image_tellsHowManyYearsThereWere() {
        CowsOwed x = Due.hills("c8,c8;2");
        DUE.is("image() of none", x.image(), 0);
        x.year();
        DUE.is("image() of one", x.image(), 1);
        Due.years(x, 41);
        DUE.is("image() of many", x.image(), 42);
    }

    static void promise23_image_withoutHillsIsState() {
        DUE.refuses(CowsOwed::new, "image()", CowsOwed::image, STATE);
        DUE.refuses(() -> Due.page("c0,k1;4"), "image()", CowsOwed::image, STATE);
    }

    static void promise23_image_refusedKeepsNone() {
        CowsOwed x = Due.page("c0,k1;4");
        x.image();
        x.hills();
        DUE.is("restore()", x.restore(), STATE);
    }

    static void promise23_image_theLatestIsKept() {
        CowsOwed x = Due.hills("c8,c8;2");
        x.image();
        Due.years(x, 3);
        x.image();
        x.year();
        DUE.is("restore()", x.restore(), 3);
        DUE.is("clan(0, 1)", x.clan(0, 1), 27);
        DUE.is("restore() again", x.restore(), 3);
    }

    static void promise23_image_changesNothingElse() {
        CowsOwed x = Due.busy();
        long before = x.digest();
        x.image();
        DUE.is("digest()", x.digest(), before);
        DUE.changesNothing(() -> {
            CowsOwed kept = Due.busy();
            kept.image();
            return kept;
        }, "image() again", CowsOwed::image);
    }

    // ---- promise 24: restore

    static void promise24_restore_withoutHillsIsState() {
        DUE.refuses(CowsOwed::new, "restore()", CowsOwed::restore, STATE);
    }

    static void promise24_restore_withoutAnImageIsState() {
        DUE.refuses(() -> Due.wedded("c8,c1;5", 1, 0), "restore()", CowsOwed::restore, STATE);
    }

    static void promise24_restore_tellsHowManyYearsThereWere() {
        DUE.is("restore()", changedSinceItsImage().restore(), 2);
        DUE.is("count(5)", restored().count(5), 2);
        CowsOwed x = Due.hills("c8,c8;2");
        x.image();
        Due.years(x, 5);
        DUE.is("restore() of no years", x.restore(), 0);
        DUE.is("count(5)", x.count(5), 0);
    }

    private static void sameClanAnswers(int what) {
        for (int clan = 0; clan < 4; clan++) {
            DUE.is("clan(" + clan + ", " + what + ")", restored().clan(clan, what), Due.busy().clan(clan, what));
        }
    }

    static void promise24_restore_bringsHerdsBack() {
        sameClanAnswers(1);
    }

    static void promise24_restore_bringsTheRateBack() {
        DUE.is("count(1)", restored().count(1), 3);
        sameClanAnswers(2);
    }

    static void promise24_restore_bringsBackWhoOwesWhom() {
        for (int what = 10; what <= 13; what++) {
            sameClanAnswers(what);
        }
        DUE.is("count(3)", restored().count(3), 5);
    }

    static void promise24_restore_bringsWeddingsBack() {
        CowsOwed x = restored();
        DUE.is("count(4)", x.count(4), 2);
        DUE.is("wedding(0, 3), undone since", x.wedding(0, 3), 0);
        DUE.is("wedding(1, 3), undone before", x.wedding(1, 3), 1);
        DUE.is("wed(0, 1)", x.wed(0, 1), 2);
        DUE.is("wedding(2, 0), another one since", x.wedding(2, 0), 0);
    }

    /** Plans of the same number, but of other clans, give way to those of the image. */
    static void promise24_restore_bringsPlansBack() {
        DUE.is("count(6)", restored().count(6), 2);
        CowsOwed x = Due.planned("c6,c0,k0,c1;3", 0, 1);
        x.image();
        DUE.is("high() of the image", x.high(), 6);
        x.dream();
        x.plan(0, 2);
        DUE.is("high() of another bride", x.high(), 2);
        x.restore();
        DUE.is("high() behind restore()", x.high(), 6);
        x.dream();
        x.plan(3, 1);
        DUE.is("high() of another groom", x.high(), 1);
        x.restore();
        DUE.is("high() behind restore() again", x.high(), 6);
    }

    static void promise24_restore_bringsBackWhatWasTold() {
        DUE.is("count(7)", restored().count(7), 1);
        CowsOwed x = Due.hills("c6,c0;3");
        x.tell(3, 4);
        x.image();
        x.forget();
        x.tell(4, 4);
        DUE.is("which() of another rate", x.which(), 9);
        x.restore();
        DUE.is("which() behind restore()", x.which(), 2);
        x.forget();
        x.tell(3, 8);
        x.restore();
        DUE.is("which() behind restore() again", x.which(), 2);
    }

    static void promise24_restore_bringsAllBackAgainAndAgain() {
        CowsOwed x = changedSinceItsImage();
        for (int i = 0; i < 3; i++) {
            x.restore();
            DUE.is("digest()", x.digest(), Due.busy().digest());
            x.year();
            x.wed(3, 1);
            x.divorce(0);
            x.forget();
            x.dream();
        }
    }

    static void promise24_restore_leavesThePage() {
        CowsOwed x = changedSinceItsImage();
        x.blank();
        Due.write(x, "k~");
        x.restore();
        DUE.is("count(8)", x.count(8), 2);
        DUE.is("fault()", x.fault(), 1);
    }

    static void promise24_restore_leavesHowOftenHillsWereRead() {
        CowsOwed x = Due.hills("c8,c8;2");
        Due.write(x, "c8,c8;3");
        x.hills();
        x.image();
        x.restore();
        DUE.is("count(9)", x.count(9), 2);
    }

    static void promise24_restore_isTakenWhileOtherHillsAreOnlyWritten() {
        CowsOwed x = Due.hills("c8,c8;2");
        x.image();
        x.year();
        Due.write(x, "c8,c8;3");
        DUE.is("restore()", x.restore(), 0);
    }

    static void promise24_restore_isTakenBehindHillsThatWereRefused() {
        CowsOwed x = Due.hills("c8,c8;2");
        x.image();
        x.year();
        Due.write(x, "c8,c8;6");
        DUE.is("hills()", x.hills(), STATE);
        DUE.is("restore()", x.restore(), 0);
    }

    private static CowsOwed readSinceItsImage(String text) {
        CowsOwed x = Due.hills("c8,c8;2");
        x.year();
        x.image();
        Due.write(x, text);
        x.hills();
        return x;
    }

    static void promise24_restore_withOtherHillsSinceIsState() {
        DUE.refuses(() -> readSinceItsImage("k1,w2,o3;4"), "restore()", CowsOwed::restore, STATE);
    }

    static void promise24_restore_withTheSameTextReadSinceIsState() {
        DUE.refuses(() -> readSinceItsImage("c8,c8;2"), "restore()", CowsOwed::restore, STATE);
    }

    static void promise24_restore_ofTheOtherHillsTheirOwnImage() {
        CowsOwed x = readSinceItsImage("k1,w2,o3;4");
        x.image();
        x.rate(9);
        DUE.is("restore()", x.restore(), 0);
        DUE.is("count(0)", x.count(0), 3);
        DUE.is("count(1)", x.count(1), 4);
    }

    // ---- promise 25: count

    static void promise25_count_tellsOfAll() {
        // herds 5 2 7 0 are 1 13 0 0 behind the weddings, 1 28 0 0 behind the years; then 8 are called back
        int[] due = {4, 3, 29, 5, 2, 2, 2, 1, 4, 1};
        for (int what = 0; what < due.length; what++) {
            DUE.is("count(" + what + ")", Due.busy().count(what), due[what]);
        }
    }

    static void promise25_count_rateIs0WithoutHills() {
        DUE.is("count(1)", new CowsOwed().count(1), 0);
        DUE.is("count(1) of a page", Due.page("c0,k1;4").count(1), 0);
    }

    static void promise25_count_undoneWeddingsCount() {
        CowsOwed x = Due.wedded("c9,c9;1", 0, 1, 1, 0);
        x.divorce(0);
        x.divorce(1);
        DUE.is("count(4)", x.count(4), 2);
    }

    /** Twelve weddings round four kings at rate 9, four plans, six told, a full page. */
    private static CowsOwed full(String letters) {
        CowsOwed x = Due.planned("k0,k0,k0,k0;5", 0, 1, 1, 2, 2, 3, 3, 0);
        x.rate(9);
        for (int i = 0; i < 12; i++) {
            x.wed(i % 4, (i + 1) % 4);
            x.tell(9, 20);
        }
        Due.write(x, letters);
        return x;
    }

    static void promise25_count_ofAFullObject() {
        CowsOwed x = full("c0,c0,c0,c0,c0;1c");
        int[] due = {4, 9, 0, 240, 12, 0, 4, 6, 16, 1};
        for (int what = 0; what < due.length; what++) {
            DUE.is("count(" + what + ")", x.count(what), due[what]);
        }
    }

    static void promise25_count_hillsReadCountNotThoseRefused() {
        CowsOwed x = new CowsOwed();
        for (int times = 1; times <= 20; times++) {
            Due.write(x, "c1,c1;1");
            x.hills();
            x.hills();
            DUE.is("count(9)", x.count(9), times);
        }
    }

    static void promise25_count_whatIs0To9() {
        for (int what : new int[] {LEAST, -1, 10, GREATEST}) {
            DUE.refuses(Due::busy, "count(" + what + ")", x -> x.count(what), OUTSIDE);
            DUE.refuses(CowsOwed::new, "count(" + what + ")", x -> x.count(what), OUTSIDE);
        }
    }

    static void promise25_count_changesNothing() {
        for (int what = 0; what <= 9; what++) {
            int asked = what;
            DUE.changesNothing(Due::busy, "count(" + what + ")", x -> x.count(asked));
        }
    }

    // ---- promise 26: digest

    /** The digest by the other calls, as a number without bounds, cut to a long at the very end. */
    private static final class Told {
        private BigInteger h = BigInteger.valueOf(967);

        void add(long number) {
            h = h.multiply(BigInteger.valueOf(31)).add(BigInteger.valueOf(number));
        }

        static long of(CowsOwed x, String letters) {
            Told told = new Told();
            told.addClansAndWeddings(x);
            if (x.count(0) > 0) {
                told.addWhatShallBe(x);
            }
            told.add(x.which());
            told.add(x.ask());
            for (char c : letters.toCharArray()) {
                told.add(c);
            }
            for (int what = 0; what <= 9; what++) {
                told.add(x.count(what));
            }
            return told.h.longValue();
        }

        private void addClansAndWeddings(CowsOwed x) {
            for (int clan = 0; clan < x.count(0); clan++) {
                for (int what : new int[] {0, 1, 2, 3, 4, 5, 6, 10, 11, 12, 13}) {
                    add(x.clan(clan, what));
                }
            }
            for (int wedding = 0; wedding < x.count(4); wedding++) {
                for (int what = 0; what <= 3; what++) {
                    add(x.wedding(wedding, what));
                }
            }
        }

        private void addWhatShallBe(CowsOwed x) {
            add(x.settled());
            for (int what : new int[] {0, 10, 11, 12, 13}) {
                add(x.order(what));
            }
            add(x.high());
        }
    }

    private static void digests(CowsOwed x, String letters) {
        DUE.is("digest()", x.digest(), Told.of(x, letters));
    }

    /** 967, then 31 for WHICH, 2 for ASK and ten counts of 0. */
    static void promise26_digest_ofANewObject() {
        long h = (967L * 31 + 31) * 31 + 2;
        for (int i = 0; i < 10; i++) {
            h *= 31;
        }
        DUE.is("digest()", new CowsOwed().digest(), h);
        digests(new CowsOwed(), "");
    }

    static void promise26_digest_withoutHillsHasWhatIsToldAndThePage() {
        digests(Due.page("c1"), "c1");
        digests(Due.told(3, 4, 3, 3), "");
    }

    static void promise26_digest_ofEachNumberOfClans() {
        digests(Due.hills("o3,w4;2"), "");
        digests(Due.hills("o3,w4,k5;3"), "");
        digests(Due.hills("o3,w4,k5,p6;4"), "");
    }

    static void promise26_digest_ofAFullObjectWraps() {
        digests(full("~~~~~~~~~~~~~~~~"), "~~~~~~~~~~~~~~~~");
    }

    /** No plan at a place, no rate that would do, no kind left to ask. */
    static void promise26_digest_takesNoneAsMinusOne() {
        CowsOwed x = Due.planned("c0,c0;5", 0, 1);
        x.tell(1, 20);
        DUE.is("order(11)", x.order(11), -1);
        DUE.is("high()", x.high(), -1);
        DUE.is("ask()", x.ask(), -1);
        digests(x, "");
    }

    static void promise26_digest_hasUndoneWeddingsToo() {
        CowsOwed x = Due.wedded("c9,c9;1", 0, 1, 1, 0);
        long before = x.digest();
        x.divorce(0);
        digests(x, "");
        DUE.holds("it is another one", x.digest() != before);
    }

    static void promise26_digest_hasEachCodeOfAPage() {
        for (int code : new int[] {1, 9, 31, 64, 126}) {
            CowsOwed x = new CowsOwed();
            x.letter(code);
            digests(x, "" + (char) code);
        }
    }

    static void promise26_digest_ofABusyObject() {
        digests(Due.busy(), "c1,k");
        digests(changedSinceItsImage(), "c1,k");
        digests(restored(), "c1,k");
    }

    static void promise26_digest_changesNothing() {
        DUE.changesNothing(Due::busy, "digest()", CowsOwed::digest);
        DUE.changesNothing(CowsOwed::new, "digest()", CowsOwed::digest);
    }
}
