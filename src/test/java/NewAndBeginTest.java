/** Promises 1 and 2: a new object, and begin. */
public final class NewAndBeginTest {
    private static final Checks CHECKS = new Checks("NewAndBegin");

    public static void main(String[] args) {
        allAsAtFirst("new", new TrapDesk());
        TrapDesk used = new TrapDesk();
        used.begin();
        allAsAtFirst("begin at once", used);
        changeEverything(used);
        used.begin();
        allAsAtFirst("begin", used);
        printsFromTheStartAgain(used);
        objectsAreApart();
        CHECKS.finish();
    }

    private static void allAsAtFirst(String when, TrapDesk x) {
        long[] counts = {1, 0, 0, 0, 0, 0, 0, -1, 0x7fffffff};
        for (int which = 0; which < counts.length; which++) {
            CHECKS.due(when + ": count(" + which + ")", x.count(which), counts[which]);
        }
        for (int number : Checks.ALL_KNOWN) {
            CHECKS.due(when + ": get(" + number + ")", x.get(number), 0);
        }
        for (int n = 0; n < 32; n++) {
            CHECKS.due(when + ": register(" + n + ")", x.register(n), 0);
        }
        CHECKS.due(when + ": console(0)", x.console(0), TrapDesk.BAD);
        CHECKS.due(when + ": interrupt()", x.interrupt(), TrapDesk.BAD);
        CHECKS.due(when + ": line", x.line(false), false);
        CHECKS.due(when + ": time", x.time(0), 0);
    }

    private static void changeEverything(TrapDesk x) {
        x.set(17, 1);
        x.set(10, 'A');
        x.doWord(Checks.ECALL);
        x.set(17, 0);
        x.set(11, 3);
        x.doWord(Checks.ECALL);
        x.time(0x123456789aL);
        x.line(true);
        x.put(Checks.SIE, -1);
        x.put(Checks.HIDELEG, -1);
        x.put(Checks.HEDELEG, -1);
        x.mode(Checks.VS);
        x.fail(13, 1, false, 0, false);
        x.interrupt();
        for (int number : Checks.ALL_KNOWN) {
            x.put(number, -1);
        }
        x.mode(Checks.S);
        x.set(17, 8);
        x.doWord(Checks.ECALL);
        x.set(10, 5);
        x.go(0x4444);
        x.mode(Checks.VS);
        CHECKS.due("off before begin", x.count(6), 1);
        CHECKS.due("traps to S before begin", x.count(2), 1);
        CHECKS.due("traps to VS before begin", x.count(3), 1);
        CHECKS.due("interrupts before begin", x.count(4), 1);
    }

    private static void printsFromTheStartAgain(TrapDesk x) {
        x.set(17, 1);
        x.set(10, 'Z');
        CHECKS.due("print behind begin", x.doWord(Checks.ECALL), TrapDesk.DONE);
        CHECKS.due("console(0) behind begin", x.console(0), 'Z');
        CHECKS.due("console(1) behind begin", x.console(1), TrapDesk.BAD);
    }

    private static void objectsAreApart() {
        TrapDesk one = new TrapDesk();
        TrapDesk two = new TrapDesk();
        changeEverything(one);
        allAsAtFirst("beside another", two);
    }
}
