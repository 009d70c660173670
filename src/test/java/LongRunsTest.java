/**
 * "An object is used for at most 512 calls after it has been made": runs that use one object for just so many,
 * each call's answer due by the document's words, the last one's too.
 */
public final class LongRunsTest {
    private static final int CALLS = 512;
    private static final int BAD = -1;
    private static final int STATE = -2;
    private static final int FULL = -3;
    private static final int NONE = -4;
    private static final Due DUE = new Due();

    private final FloorYears x = new FloorYears();
    private final String about;
    private int calls;

    private LongRunsTest(String about) {
        this.about = about;
    }

    public static void main(String[] args) {
        theTape();
        texts();
        yearByYear();
        theLastYear();
        guestsAndABan();
        bansComeAndGo();
        lawsAltered();
        seenAndForgotten();
        imagesInTurn();
        sheetsLaid();
        guestsRead();
        refusedAlone();
        twoObjects();
        DUE.finish();
    }

    private void is(String call, long got, long want) {
        calls++;
        DUE.about(about + ", call " + calls);
        DUE.is(call, got, want);
    }

    private boolean goesOn() {
        return calls < CALLS;
    }

    /** Every run is to be as long as an object may be used for, and no longer. */
    private void ends() {
        DUE.about(about);
        DUE.is("calls", calls, CALLS);
    }

    private void feed(String bytes, int had) {
        for (int i = 0; i < bytes.length(); i++) {
            is("feed(" + (int) bytes.charAt(i) + ")", x.feed(bytes.charAt(i)), had + i + 1);
        }
    }

    private void tell(String text, int answer) {
        feed(text, 0);
        is("text() of '" + text + "'", x.text(), answer);
    }

    private static void theTape() {
        LongRunsTest t = new LongRunsTest("the tape");
        t.feed(" ".repeat(160), 0);
        t.is("feed(32)", t.x.feed(32), FULL);
        t.is("end(160)", t.x.end(160), 160);
        t.is("end(3)", t.x.end(3), 160);
        t.feed("plain;".repeat(6), 3);
        t.is("end(161)", t.x.end(161), BAD);
        t.is("text()", t.x.text(), 6);
        t.feed("~".repeat(160), 0);
        t.is("feed(127)", t.x.feed(127), FULL);
        t.is("end(0)", t.x.end(0), 160);
        t.is("rule(0)", t.x.rule(0), 6);
        for (int had = 1; t.calls < CALLS - 2; had++) {
            t.is("feed(59)", t.x.feed(59), had);
        }
        t.is("text()", t.x.text(), -10);
        t.is("fault()", t.x.fault(), 2);
        t.ends();
    }

    private static void texts() {
        LongRunsTest t = new LongRunsTest("texts");
        for (int i = 0; t.calls + 26 <= CALLS; i++) {
            t.tell("plain;so 0;", 2);
            t.is("rule(4)", t.x.rule(4), 1);
            t.tell("echo 0 1;", -17);
            t.is("fault()", t.x.fault(), 2);
            t.is("rule(0)", t.x.rule(0), 1);
            t.is("thing(0, 0)", t.x.thing(0, 0), 0);
        }
        while (t.goesOn()) {
            t.is("text() of nothing", t.x.text(), 0);
        }
        t.ends();
    }

    private static void yearByYear() {
        LongRunsTest t = new LongRunsTest("year by year");
        t.tell("contrary 1;echo 0;", 2);
        // 0 is so if 1 was not, 1 if 0 was: none, 0, both, 1, and again.
        int[] round = {0, 1, 3, 2};
        for (int year = 1; t.calls + 2 <= CALLS; year++) {
            t.is("go(1)", t.x.go(1), round[year % 4]);
            t.is("rule(3)", t.x.rule(3), year);
        }
        while (t.goesOn()) {
            t.is("ring(1)", t.x.ring(1), 4);
        }
        t.ends();
    }

    private static void theLastYear() {
        LongRunsTest t = new LongRunsTest("the last year");
        t.tell("contrary 0;guest 0 1;", 2);
        t.is("keep(0)", t.x.keep(0), 0);
        while (t.calls + 18 <= CALLS) {
            for (int i = 1; i <= 10; i++) {
                t.is("go(99)", t.x.go(99), i % 2);
            }
            t.is("go(10)", t.x.go(10), FULL);
            t.is("go(9)", t.x.go(9), 1);
            t.is("go(1)", t.x.go(1), FULL);
            t.is("go(0)", t.x.go(0), 1);
            t.is("ahead(99)", t.x.ahead(99), 0);
            t.is("rule(3)", t.x.rule(3), 999);
            t.is("undo(0)", t.x.undo(0), 0);
            t.is("back(0)", t.x.back(0), 0);
        }
        while (t.goesOn()) {
            t.is("rule(3)", t.x.rule(3), 0);
        }
        t.ends();
    }

    private static void guestsAndABan() {
        LongRunsTest t = new LongRunsTest("guests and a ban");
        t.tell("plain;plain;guest 0 1;guest 1 2;ban 0 1;", 5);
        while (t.calls + 6 <= CALLS) {
            t.is("undo(0)", t.x.undo(0), 1);
            t.is("undo(1)", t.x.undo(1), STATE);
            t.is("way(1, 1, 0)", t.x.way(1, 1, 0), 2);
            t.is("undo(0)", t.x.undo(0), 0);
            t.is("undo(1)", t.x.undo(1), 2);
            t.is("undo(1)", t.x.undo(1), 0);
        }
        while (t.goesOn()) {
            t.is("undo(2)", t.x.undo(2), BAD);
        }
        t.ends();
    }

    private static void bansComeAndGo() {
        LongRunsTest t = new LongRunsTest("bans come and go");
        t.tell("plain;plain;plain;so 0;so 1;", 5);
        while (t.calls + 14 <= CALLS) {
            t.is("forbid(1, 2)", t.x.forbid(1, 2), 1);
            t.is("forbid(0, 1)", t.x.forbid(0, 1), 2);
            t.is("forbid(2, 0)", t.x.forbid(2, 0), 3);
            t.is("clash()", t.x.clash(), 0);
            t.is("agree(0)", t.x.agree(0), 4);
            t.is("forbid(1, 2)", t.x.forbid(1, 2), 4);
            t.is("forbid(0, 1)", t.x.forbid(0, 1), FULL);
            t.is("lift(1)", t.x.lift(1), 3);
            t.is("ban(1, 0)", t.x.ban(1, 0), 2);
            t.is("clash()", t.x.clash(), NONE);
            t.is("lift(3)", t.x.lift(3), BAD);
            t.is("lift(0)", t.x.lift(0), 2);
            t.is("lift(1)", t.x.lift(1), 1);
            t.is("lift(0)", t.x.lift(0), 0);
        }
        while (t.goesOn()) {
            t.is("agree(0)", t.x.agree(0), 8);
        }
        t.ends();
    }

    private static void lawsAltered() {
        LongRunsTest t = new LongRunsTest("laws altered");
        t.tell("plain;plain;plain;plain;plain;plain;", 6);
        int[] kind = new int[6];
        for (int i = 0; t.calls + 2 <= CALLS; i++) {
            int f = i % 6;
            int then = i * 7 % 5;
            t.is("alter(" + f + ", 0, " + then + ")", t.x.alter(f, 0, then), kind[f]);
            kind[f] = then;
            t.is("thing(" + f + ", 0)", t.x.thing(f, 0), then);
        }
        while (t.goesOn()) {
            t.is("alter(0, 0, 5)", t.x.alter(0, 0, 5), BAD);
        }
        t.ends();
    }

    private static void seenAndForgotten() {
        LongRunsTest t = new LongRunsTest("seen and forgotten");
        t.tell("plain;echo 0;", 2);
        for (int round = 0; t.calls + 12 <= CALLS; round++) {
            t.is("see(1, 1, true)", t.x.see(1, 1, true), 1);
            t.is("fits(0)", t.x.fits(0), 2);
            t.is("look(0)", t.x.look(0), 1);
            t.is("see(1, 0, false)", t.x.see(1, 0, false), 2);
            t.is("fits(1)", t.x.fits(1), 1);
            for (int many = 3; many <= 6; many++) {
                t.is("see(0, 9, true)", t.x.see(0, 9, true), many);
            }
            t.is("see(0, 9, true)", t.x.see(0, 9, true), FULL);
            t.is("fits(2)", t.x.fits(2), 1);
            t.is("forget(0)", t.x.forget(0), 6);
        }
        while (t.goesOn()) {
            t.is("fits(0)", t.x.fits(0), 4);
        }
        t.ends();
    }

    private static void imagesInTurn() {
        LongRunsTest t = new LongRunsTest("images in turn");
        t.tell("contrary 0;", 1);
        for (int year = 0; t.calls + 5 <= CALLS; year++) {
            t.is("keep(" + year % 2 + ")", t.x.keep(year % 2), year < 2 ? 0 : 1);
            t.is("go(7)", t.x.go(7), (year + 1) % 2);
            t.is("back(" + year % 2 + ")", t.x.back(year % 2), year);
            t.is("go(1)", t.x.go(1), (year + 1) % 2);
            t.is("count(1)", t.x.count(1), year < 1 ? 1 : 2);
        }
        while (t.goesOn()) {
            t.is("back(2)", t.x.back(2), BAD);
        }
        t.ends();
    }

    private static void sheetsLaid() {
        LongRunsTest t = new LongRunsTest("sheets laid");
        for (int k = 0; k < 4; k++) {
            t.is("sheet(" + k + ", " + k % 3 + ", 40)", t.x.sheet(k, k % 3, 40), 1);
        }
        for (int i = 0; t.calls < CALLS - 8; i++) {
            int k = i % 4;
            int cell = i / 4 % 42 - 1;
            t.is("lay(" + k + ", " + cell + ", " + i + ")", t.x.lay(k, cell, i), cell < 0 || cell > 39 ? -12 : 1);
        }
        t.is("read(0, 0, 40, 1)", t.x.read(0, 0, 40, 1), 0);
        t.is("torn()", t.x.torn(), 2);
        t.is("read(3, 1, 0, 1)", t.x.read(3, 1, 0, 1), 0);
        t.is("torn()", t.x.torn(), 3);
        t.is("sheet(0, 2, 0)", t.x.sheet(0, 2, 0), 1);
        t.is("lay(0, 0, 1)", t.x.lay(0, 0, 1), -12);
        t.is("sheet(1, 1, -1)", t.x.sheet(1, 1, -1), -14);
        t.is("count(3)", t.x.count(3), 0);
        t.ends();
    }

    private static void guestsRead() {
        LongRunsTest t = new LongRunsTest("guests read");
        t.tell("plain;plain;guest 0 1;guest 1 2;", 4);
        t.is("sheet(2, 0, 22)", t.x.sheet(2, 0, 22), 1);
        for (int i = 0; i < 20; i++) {
            t.is("lay(2, " + i + ", " + i % 2 + ")", t.x.lay(2, i, i % 2), 1);
        }
        t.is("lay(2, 20, 4)", t.x.lay(2, 20, 4), 1);
        // Twenty guests, ten of each, leave all as it was; 49 times twenty years are 980.
        for (int times = 1; times <= 49; times++) {
            t.is("read(2, 0, 0, 20)", t.x.read(2, 0, 0, 20), 20);
            t.is("torn()", t.x.torn(), 0);
            t.is("rule(3)", t.x.rule(3), 20 * times);
            t.is("rule(4)", t.x.rule(4), 0);
        }
        // The twentieth guest finds the last year.
        t.is("read(2, 0, 0, 20)", t.x.read(2, 0, 0, 20), -39);
        t.is("rule(3)", t.x.rule(3), 980);
        t.is("read(2, 0, 1, 20)", t.x.read(2, 0, 1, 20), -39);
        t.is("read(2, 0, 0, 19)", t.x.read(2, 0, 0, 19), 19);
        t.is("rule(3)", t.x.rule(3), 999);
        while (t.goesOn()) {
            t.is("read(2, 0, 0, 1)", t.x.read(2, 0, 0, 1), -20);
        }
        t.ends();
    }

    private static void refusedAlone() {
        LongRunsTest t = new LongRunsTest("refused alone");
        while (t.calls + 10 < CALLS) {
            t.is("feed(-1)", t.x.feed(-1), BAD);
            t.is("end(1)", t.x.end(1), BAD);
            t.is("undo(0)", t.x.undo(0), BAD);
            t.is("go(100)", t.x.go(100), BAD);
            t.is("see(0, 0, true)", t.x.see(0, 0, true), BAD);
            t.is("drift(1, 1, 0)", t.x.drift(1, 1, 0), STATE);
            t.is("back(0)", t.x.back(0), STATE);
            t.is("lay(0, 0, 1)", t.x.lay(0, 0, 1), -11);
            t.is("sheet(0, 0, 41)", t.x.sheet(0, 0, 41), BAD);
            t.is("forbid(0, 1)", t.x.forbid(0, 1), BAD);
        }
        for (int what = 0; t.calls < CALLS - 1; what = Math.min(what + 1, 2)) {
            t.is("rule(" + what + ")", t.x.rule(what), 0);
        }
        t.is("count(3)", t.x.count(3), NONE);
        t.ends();
    }

    private static void twoObjects() {
        LongRunsTest one = new LongRunsTest("one of two objects");
        LongRunsTest other = new LongRunsTest("the other of two objects");
        one.tell("contrary 0;", 1);
        other.tell("plain;so 0;", 2);
        for (int year = 1; one.goesOn(); year++) {
            one.is("go(1)", one.x.go(1), year % 2);
            if (other.goesOn()) {
                other.is("ahead(99)", other.x.ahead(99), 1);
            }
        }
        one.ends();
        other.ends();
    }
}
