import java.util.Random;

/** Runs of calls by fixed seeds, each asked of the class and of the model: every answer must be the same. */
final class ModelTest {
    private static final Due DUE = new Due("ModelTest");
    /** An object is good for 512 calls; one step of a run makes 16 at most. */
    private static final int RUNS = 700, CALLS = 512, STEP = 16;
    private static final int[] EDGES = {-1, Integer.MIN_VALUE, Integer.MAX_VALUE, 4, 5, 9, 10, 12, 13, 14, 20, 21, 40, 41, 127};

    private final Random random;
    private final CowsOwed x = new CowsOwed();
    private final Model model = new Model();
    private final String run;
    private int calls = 0;

    private ModelTest(int seed) {
        random = new Random(seed);
        run = "run " + seed + ": ";
    }

    public static void main(String[] args) {
        for (int seed = 0; seed < RUNS; seed++) {
            ModelTest test = new ModelTest(seed);
            while (test.calls <= CALLS - STEP) {
                test.step();
            }
        }
        DUE.end();
    }

    /** Mostly a number below the bound from the least on, now and then one of the edges. */
    private int number(int least, int bound) {
        return random.nextInt(12) == 0 ? EDGES[random.nextInt(EDGES.length)] : least + random.nextInt(bound - least);
    }

    private void same(String call, long got, long want) {
        calls++;
        DUE.is(run + call, got, want);
    }

    private void step() {
        switch (random.nextInt(32)) {
            case 0: case 1: letters(); break;
            case 2: case 3: case 4: case 5: case 6: pair(); break;
            case 7: case 8: case 9: year(); break;
            case 10: case 11: case 12: case 13: divorce(); break;
            case 14: case 15: case 16: ofOne(); break;
            case 17: same("settled()", x.settled(), model.settled()); break;
            case 18: case 19: shallBe(); break;
            case 20: case 21: case 22: told(); break;
            case 23: case 24: ages(); break;
            case 25: same("image()", x.image(), model.image()); break;
            case 26: same("restore()", x.restore(), model.restore()); break;
            case 27: count(); break;
            case 28: rate(); break;
            default: same("digest()", x.digest(), model.digest());
        }
    }

    private void letters() {
        String text = "";
        switch (random.nextInt(8)) {
            case 0: case 1: text = someHills(); break;
            case 2: text = "" + "cpowk0123456789,;".charAt(random.nextInt(17)); break;
            case 3: same("blank()", x.blank(), model.blank()); break;
            default: break;
        }
        for (char c : text.toCharArray()) {
            same("letter(" + c + ")", x.letter(c), model.letter(c));
        }
        if (random.nextInt(10) == 0) {
            int code = number(0, 128);
            same("letter(" + code + ")", x.letter(code), model.letter(code));
        }
        same("fault()", x.fault(), model.fault());
        same("hills()", x.hills(), model.hills());
    }

    private String someHills() {
        StringBuilder text = new StringBuilder();
        int clans = 2 + random.nextInt(3);
        for (int i = 0; i < clans; i++) {
            text.append(i == 0 ? "" : ",").append("cpowk".charAt(random.nextInt(5))).append(random.nextInt(10));
        }
        return text.append(';').append(1 + random.nextInt(5)).toString();
    }

    private void pair() {
        int his = number(0, 4);
        int hers = number(0, 4);
        String both = "(" + his + ", " + hers + ")";
        if (random.nextBoolean()) {
            same("wed" + both, x.wed(his, hers), model.wed(his, hers));
        } else {
            same("plan" + both, x.plan(his, hers), model.plan(his, hers));
        }
    }

    private void year() {
        same("year()", x.year(), model.year());
    }

    private void divorce() {
        int wedding = number(0, 12);
        same("divorce(" + wedding + ")", x.divorce(wedding), model.divorce(wedding));
    }

    private void ofOne() {
        int which = number(0, 4);
        int what = number(0, 14);
        String both = "(" + which + ", " + what + ")";
        same("clan" + both, x.clan(which, what), model.clan(which, what));
        int kind = number(0, 5);
        same("as(" + which + ", " + kind + ")", x.as(which, kind), model.as(which, kind));
        int part = number(0, 4);
        same("wedding(" + which + ", " + part + ")", x.wedding(which, part), model.wedding(which, part));
    }

    private void shallBe() {
        int what = random.nextBoolean() ? 0 : number(10, 14);
        same("order(" + what + ")", x.order(what), model.order(what));
        same("high()", x.high(), model.high());
        if (random.nextInt(4) == 0) {
            same("dream()", x.dream(), model.dream());
        }
    }

    private void told() {
        int rate = number(1, 10);
        int asked = random.nextInt(3) == 0 ? number(1, 21) : rate;
        same("tell(" + rate + ", " + asked + ")", x.tell(rate, asked), model.tell(rate, asked));
        same("which()", x.which(), model.which());
        same("ask()", x.ask(), model.ask());
        if (random.nextInt(4) == 0) {
            same("forget()", x.forget(), model.forget());
        }
    }

    private void ages() {
        int years = number(1, 41);
        int seed = random.nextInt(5) == 0 ? number(0, 10) : random.nextInt(Integer.MAX_VALUE);
        int what = number(0, 3);
        same("ages(" + years + ", " + seed + ", " + what + ")", x.ages(years, seed, what), model.ages(years, seed, what));
    }

    private void count() {
        int what = number(0, 10);
        same("count(" + what + ")", x.count(what), model.count(what));
    }

    private void rate() {
        int rate = number(1, 10);
        same("rate(" + rate + ")", x.rate(rate), model.rate(rate));
    }
}
