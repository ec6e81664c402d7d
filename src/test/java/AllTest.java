/** Promises 23 to 26: image, restore, count, digest. */
final class AllTest {
    private static final int UNKNOWN = CowsOwed.UNKNOWN, OUTSIDE = CowsOwed.OUTSIDE, STATE = CowsOwed.STATE;
    private static final Due DUE = new Due("AllTest");

    public static void main(String[] args) {
        imageAndRestore();
        imageIsTheLatest();
        restoreBringsPlansBack();
        restoreBringsToldBack();
        restoreRefuses();
        restoreKeepsThePage();
        count();
        digestOfNothing();
        digest();
        DUE.end();
    }

    private static CowsOwed busy() {
        CowsOwed x = Due.hills("w5,k2,o7,p0;3");
        x.wed(0, 1);
        x.wed(2, 1);
        x.plan(3, 1);
        x.plan(1, 0);
        x.tell(1, 1);
        x.year();
        x.year();
        x.divorce(1);
        return x;
    }

    private static void imageAndRestore() {
        CowsOwed x = busy();
        long before = x.digest();
        DUE.is("image()", x.image(), 2);
        DUE.is("image() changes nothing", x.digest(), before);
        x.divorce(0);
        x.wed(3, 1);
        x.rate(9);
        x.year();
        x.dream();
        x.plan(0, 1);
        x.plan(0, 2);
        x.plan(0, 3);
        x.forget();
        x.tell(5, 5);
        x.tell(5, 6);
        DUE.is("restore()", x.restore(), 2);
        DUE.is("restore() brings all back", x.digest(), before);
        DUE.is("the plans as they were", x.order(0), busy().order(0));
        DUE.is("what was told as it was", x.which(), 13);
        DUE.is("count(5)", x.count(5), 2);
        x.year();
        x.wed(3, 1);
        DUE.is("restore() again", x.restore(), 2);
        DUE.is("restore() brings all back again", x.digest(), before);
        DUE.is("wed behind restore()", x.wed(3, 1), 2);
        DUE.is("divorce behind restore()", x.wedding(1, 3), 1);
        DUE.is("the first is not undone", x.wedding(0, 3), 0);
    }

    private static void imageIsTheLatest() {
        CowsOwed x = Due.hills("c8,c8;2");
        DUE.is("image() at first", x.image(), 0);
        x.year();
        x.year();
        x.year();
        DUE.is("image() of three years", x.image(), 3);
        x.year();
        DUE.is("restore() of three years", x.restore(), 3);
        DUE.is("herd of three years", x.clan(0, 1), 27);
    }

    /** Plans of the same number, but of other clans, give way to those of the image. */
    private static void restoreBringsPlansBack() {
        CowsOwed x = Due.hills("c6,c0,k0,c1;3");
        x.plan(0, 1);
        x.image();
        DUE.is("high() of the image", x.high(), 6);
        x.dream();
        x.plan(0, 2);
        DUE.is("high() of another bride", x.high(), 2);
        x.restore();
        DUE.is("high() behind restore()", x.high(), 6);
        x.dream();
        x.plan(3, 1);
        DUE.is("high() of another groom", x.high(), 1);
        x.restore();
        DUE.is("high() behind restore() again", x.high(), 6);
    }

    private static void restoreBringsToldBack() {
        CowsOwed x = Due.hills("c6,c0;3");
        x.tell(3, 4);
        x.image();
        x.forget();
        x.tell(4, 4);
        DUE.is("which() of another rate", x.which(), 9);
        x.restore();
        DUE.is("which() behind restore()", x.which(), 2);
        x.forget();
        x.tell(3, 8);
        x.restore();
        DUE.is("which() behind restore() again", x.which(), 2);
    }

    private static void restoreRefuses() {
        DUE.is("image() without hills", new CowsOwed().image(), STATE);
        DUE.is("restore() without hills", new CowsOwed().restore(), STATE);
        CowsOwed x = Due.hills("c8,c8;2");
        DUE.refuses(x, "restore() without an image", x::restore, STATE);
        x.image();
        x.year();
        Due.write(x, "c8,c8;3");
        DUE.is("restore() with new letters", x.restore(), 0);
        x.hills();
        DUE.refuses(x, "restore() with other hills", x::restore, STATE);
        DUE.is("the other hills stay", x.count(1), 3);
        DUE.is("image() of the other hills", x.image(), 0);
        x.rate(4);
        DUE.is("restore() of the other hills", x.restore(), 0);
        DUE.is("rate of the other hills", x.count(1), 3);
    }

    private static void restoreKeepsThePage() {
        CowsOwed x = Due.hills("c8,c8;2");
        x.image();
        Due.write(x, "abc");
        x.restore();
        DUE.is("count(8) behind restore()", x.count(8), 3);
        DUE.is("count(9) behind restore()", x.count(9), 1);
    }

    private static void count() {
        CowsOwed x = busy();
        Due.write(x, "ab");
        // herds 5 2 7 0 are 1 13 0 0 behind the weddings, 1 28 0 0 behind the years; then 8 are called back
        int[] due = {4, 3, 29, 5, 2, 2, 2, 1, 2, 1};
        for (int what = 0; what < due.length; what++) {
            DUE.is("count(" + what + ")", x.count(what), due[what]);
        }
        for (int what : new int[] {-1, 10, 11, Integer.MIN_VALUE, Integer.MAX_VALUE}) {
            DUE.refuses(x, "count(" + what + ")", () -> x.count(what), OUTSIDE);
        }
        CowsOwed plain = Due.hills("c4,k3,c0;3");
        plain.wed(0, 1);
        plain.wed(2, 0);
        DUE.is("count(2) plain", plain.count(2), 7);
        DUE.is("count(3) plain", plain.count(3), 7);
        Due.write(plain, "c1,c1;1");
        plain.hills();
        DUE.is("count(9) plain", plain.count(9), 2);
    }

    /** 967, then 31 for WHICH, 2 for ASK and ten counts of 0. */
    private static void digestOfNothing() {
        long h = (967L * 31 + 31) * 31 + 2;
        for (int i = 0; i < 10; i++) {
            h *= 31;
        }
        DUE.is("digest() of a new one", new CowsOwed().digest(), h);
    }

    private static void digest() {
        CowsOwed x = busy();
        DUE.is("digest() of a busy one", x.digest(), told(x, ""));
        Due.write(x, "k~");
        DUE.is("digest() with letters", x.digest(), told(x, "k~"));
        CowsOwed two = Due.hills("o3,w4;2");
        DUE.is("digest() of two", two.digest(), told(two, ""));
        two.plan(0, 1);
        two.tell(3, 5);
        DUE.is("digest() of a plan", two.digest(), told(two, ""));
        DUE.is("digest() changes nothing", two.digest(), told(two, ""));
        CowsOwed none = Due.page("c1");
        DUE.is("digest() without hills", none.digest(), told(none, "c1"));
        DUE.is("no hills", none.clan(0, 0), UNKNOWN);
    }

    private static long told(CowsOwed x, String letters) {
        long h = 967;
        for (int clan = 0; clan < x.count(0); clan++) {
            for (int what = 0; what <= 13; what++) {
                h = what > 6 && what < 10 ? h : 31 * h + x.clan(clan, what);
            }
        }
        for (int wedding = 0; wedding < x.count(4); wedding++) {
            for (int what = 0; what <= 3; what++) {
                h = 31 * h + x.wedding(wedding, what);
            }
        }
        if (x.count(0) > 0) {
            h = 31 * h + x.settled();
            h = 31 * h + x.order(0);
            for (int what = 10; what <= 13; what++) {
                h = 31 * h + x.order(what);
            }
            h = 31 * h + x.high();
        }
        h = 31 * h + x.which();
        h = 31 * h + x.ask();
        for (char c : letters.toCharArray()) {
            h = 31 * h + c;
        }
        for (int what = 0; what <= 9; what++) {
            h = 31 * h + x.count(what);
        }
        return h;
    }
}
