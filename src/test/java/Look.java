import java.util.ArrayList;
import java.util.List;

/** What calls tell of an object, as it is and as it goes on: two objects with like looks are in like states. */
final class Look {
    private final CowsOwed x;
    private final List<String> seen = new ArrayList<>();

    private Look(CowsOwed x) {
        this.x = x;
    }

    static List<String> at(CowsOwed x) {
        Look look = new Look(x);
        look.atAll();
        look.atClans();
        look.atWeddings();
        look.atWhatShallBe();
        look.goingOn();
        look.goingBack();
        return look.seen;
    }

    private void see(String call, long answer) {
        seen.add(call + " = " + answer);
    }

    private void atAll() {
        see("digest()", x.digest());
        see("fault()", x.fault());
        for (int what = 0; what <= 9; what++) {
            see("count(" + what + ")", x.count(what));
        }
        see("which()", x.which());
        see("ask()", x.ask());
        see("settled()", x.settled());
    }

    private void atClans() {
        for (int clan = 0; clan < 4; clan++) {
            for (int what = 0; what <= 13; what++) {
                see("clan(" + clan + ", " + what + ")", x.clan(clan, what));
            }
            for (int kind = 0; kind < 5; kind++) {
                see("as(" + clan + ", " + kind + ")", x.as(clan, kind));
            }
        }
    }

    private void atWeddings() {
        for (int wedding = 0; wedding < 12; wedding++) {
            for (int what = 0; what <= 3; what++) {
                see("wedding(" + wedding + ", " + what + ")", x.wedding(wedding, what));
            }
        }
    }

    private void atWhatShallBe() {
        see("order(0)", x.order(0));
        for (int what = 10; what <= 13; what++) {
            see("order(" + what + ")", x.order(what));
        }
        see("high()", x.high());
        for (int what = 0; what <= 2; what++) {
            see("ages(5, 471, " + what + ")", x.ages(5, 471, what));
        }
    }

    /** At each rate the plans tell something else; then each call that changes something. */
    private void goingOn() {
        for (int rate = 1; rate <= 9; rate++) {
            see("rate(" + rate + ")", x.rate(rate));
            see("order(0) at rate " + rate, x.order(0));
        }
        see("year()", x.year());
        see("wed(1, 0)", x.wed(1, 0));
        see("divorce(0)", x.divorce(0));
        see("plan(0, 1)", x.plan(0, 1));
        see("tell(2, 2)", x.tell(2, 2));
        see("letter(99)", x.letter(99));
        see("digest() of these", x.digest());
    }

    private void goingBack() {
        see("dream()", x.dream());
        see("forget()", x.forget());
        see("restore()", x.restore());
        see("digest() of the image", x.digest());
        see("blank()", x.blank());
        Due.write(x, "k1,w2,o3;4");
        see("hills()", x.hills());
        see("restore() of other hills", x.restore());
        see("digest() of other hills", x.digest());
    }
}
