/** Runs as long as an object is good for: the last of 512 calls is answered as the document says, too. */
final class RunsTest {
    private static final Due DUE = new Due("RunsTest");
    private static final int CALLS = 512;
    private static final String TEXT = "w5,k2;3";
    /** The letters of the text, and reading them. */
    private static final int TO_READ = TEXT.length() + 1;

    public static void main(String[] args) {
        DUE.cases(RunsTest.class);
    }

    static void promise02_letter_fillsThePageAgainAndAgain() {
        CowsOwed x = new CowsOwed();
        for (int made = 0; made + 18 <= CALLS; made += 18) {
            for (int size = 1; size <= 16; size++) {
                DUE.is("letter(126)", x.letter(126), size);
            }
            DUE.is("letter(126)", x.letter(126), CowsOwed.FULL);
            DUE.is("blank()", x.blank(), 16);
        }
    }

    static void promise05_hills_areReadAsOftenAsCanBe() {
        CowsOwed x = new CowsOwed();
        int read = 0;
        for (int made = 0; made + TO_READ < CALLS; made += TO_READ) {
            Due.write(x, TEXT);
            DUE.is("hills()", x.hills(), 2);
            read++;
        }
        DUE.is("count(9)", x.count(9), read);
    }

    /** The 12th wedding is the last one, however often another is asked for. */
    static void promise09_wed_staysFull() {
        CowsOwed x = Due.hills(TEXT);
        for (int made = TO_READ; made < CALLS - 1; made++) {
            int wedding = made - TO_READ;
            DUE.is("wed(0, 1)", x.wed(0, 1), wedding < 12 ? wedding : CowsOwed.FULL);
        }
        DUE.is("count(4)", x.count(4), 12);
    }

    static void promise12_year_isCountedToTheLast() {
        CowsOwed x = Due.hills(TEXT);
        int years = 0;
        for (int made = TO_READ; made < CALLS - 1; made++) {
            DUE.is("year()", x.year(), 0);
            years++;
        }
        DUE.is("count(5)", x.count(5), years);
    }

    /** Without a cow no year pays anything. */
    static void promise12_year_owesTheSameToTheLast() {
        CowsOwed x = Due.wedded("k0,k0;5", 0, 1);
        for (int made = TO_READ + 1; made < CALLS; made++) {
            DUE.is("year()", x.year(), 12);
        }
    }

    static void promise24_restore_goesBackAgainAndAgain() {
        CowsOwed x = Due.wedded(TEXT, 0, 1);
        x.year();
        DUE.is("image()", x.image(), 1);
        for (int made = TO_READ + 3; made + 4 <= CALLS; made += 4) {
            DUE.is("divorce(0)", x.divorce(0), 8);
            DUE.is("wed(1, 0)", x.wed(1, 0), 1);
            DUE.is("restore()", x.restore(), 1);
            DUE.is("count(4)", x.count(4), 1);
        }
    }

    static void promise26_digest_isTheSameToTheLast() {
        CowsOwed x = Due.planned(TEXT, 0, 1, 1, 0, 0, 1, 1, 0);
        long first = x.digest();
        for (int made = TO_READ + 5; made < CALLS; made++) {
            DUE.is("digest()", x.digest(), first);
        }
    }
}
