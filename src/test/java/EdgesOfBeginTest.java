/** Promises 1 and 2 at their edges: a new object, and begin behind each of the states that the other edges lead to. */
public final class EdgesOfBeginTest {
    private static final Checks CHECKS = new Checks("EdgesOfBegin");

    public static void main(String[] args) {
        aNewObject();
        beginAtOnce();
        beginTwice();
        behindRefusedCalls();
        behindOff();
        behindAFullConsole();
        behindAnAlarm();
        behindTimeAndLine();
        behindTraps();
        behindEveryControlRegister();
        inEveryMode();
        CHECKS.finish();
    }

    private static void allAsAtFirst(String when, TrapDesk x) {
        CHECKS.due(when, x, State.atFirst());
        CHECKS.due(when + ": console(0)", x.console(0), TrapDesk.BAD);
        CHECKS.due(when + ": console(255)", x.console(255), TrapDesk.BAD);
        CHECKS.due(when + ": interrupt", x.interrupt(), TrapDesk.BAD);
        CHECKS.due(when + ": line", x.line(false), false);
        CHECKS.due(when + ": time", x.time(0), 0);
    }

    private static void aNewObject() {
        CHECKS.about("TrapDesk(): Mode S, the PC 0, TIME 0, the line off, registers 0, an empty console, not OFF");
        allAsAtFirst("new", new TrapDesk());
        TrapDesk other = Checks.busyAndOff(Checks.VS);
        allAsAtFirst("new, beside another", new TrapDesk());
        CHECKS.due("the other stays off", other.count(6), 1);
    }

    private static void beginAtOnce() {
        CHECKS.about("begin: All as at first");
        TrapDesk x = new TrapDesk();
        x.begin();
        allAsAtFirst("at once", x);
    }

    private static void beginTwice() {
        CHECKS.about("begin: All as at first");
        TrapDesk x = Checks.busy(Checks.VU);
        x.begin();
        x.begin();
        allAsAtFirst("twice", x);
    }

    private static void behindRefusedCalls() {
        CHECKS.about("begin: All as at first (behind refused calls)");
        TrapDesk x = Checks.busy(Checks.VU);
        x.mode(4);
        x.go(1);
        x.put(0x101, 1);
        x.put(Checks.TIME, 1);
        x.time(-1);
        x.set(9, 1);
        x.fail(2, 1, true, 0, true);
        x.fail(20, 1, true, 1L << 34, true);
        x.count(9);
        x.console(-1);
        x.begin();
        allAsAtFirst("behind refused calls", x);
    }

    private static void behindOff() {
        CHECKS.about("begin: All as at first (behind OFF)");
        TrapDesk x = Checks.busyAndOff(Checks.VS);
        x.begin();
        allAsAtFirst("behind off", x);
        CHECKS.due("a word is done again", x.doWord(Checks.WFI), TrapDesk.DONE);
        CHECKS.due("fail is done again", x.fail(5, 0, false, 0, false), Checks.S);
        CHECKS.due("interrupt is done again", x.interrupt(), TrapDesk.BAD);
        Checks.firmware(x, 8, 0, 0);
        CHECKS.due("off once more", x.doWord(Checks.WFI), TrapDesk.OFF);
    }

    private static void behindAFullConsole() {
        CHECKS.about("begin: All as at first (behind a full console)");
        TrapDesk x = new TrapDesk();
        x.set(17, 1);
        for (int i = 0; i < 260; i++) {
            if (i % 2 == 0) {
                x.set(10, 'f');
            }
            x.doWord(Checks.ECALL);
        }
        CHECKS.due("full", x.count(5), 256);
        x.begin();
        allAsAtFirst("behind a full console", x);
        Checks.firmware(x, 1, 'g', 0);
        CHECKS.due("printed again from the start", x.console(0), 'g');
        CHECKS.due("and no old byte is told", x.console(1), TrapDesk.BAD);
        CHECKS.due("bytes", x.count(5), 1);
    }

    private static void behindAnAlarm() {
        CHECKS.about("begin: All as at first (behind an alarm)");
        for (int high : new int[] {0, 1, -1, Integer.MIN_VALUE, Integer.MAX_VALUE}) {
            TrapDesk x = new TrapDesk();
            Checks.firmware(x, 0, 0, high);
            x.begin();
            allAsAtFirst("behind an alarm", x);
            x.time(Long.MAX_VALUE - 1);
            CHECKS.due("the alarm is the first one again", x.get(Checks.SIP), 0);
        }
    }

    private static void behindTimeAndLine() {
        CHECKS.about("begin: All as at first (behind the last TIME, with the line on)");
        TrapDesk x = new TrapDesk();
        x.time(Long.MAX_VALUE);
        x.line(true);
        x.put(Checks.SIP, -1);
        x.put(Checks.HIDELEG, -1);
        x.put(Checks.HVIP, -1);
        x.put(Checks.SIE, -1);
        x.put(Checks.HIE, -1);
        x.begin();
        allAsAtFirst("behind TIME and the line", x);
        x.mode(Checks.VU);
        CHECKS.due("no interrupt is due in VU", x.interrupt(), TrapDesk.BAD);
        x.mode(Checks.U);
        CHECKS.due("no interrupt is due in U", x.interrupt(), TrapDesk.BAD);
    }

    private static void behindTraps() {
        CHECKS.about("begin: All as at first (behind traps of every kind)");
        TrapDesk x = Checks.in(Checks.VU);
        x.put(Checks.HEDELEG, -1);
        x.fail(13, 1, false, 0, false);
        x.fail(23, 2, true, (1L << 34) - 1, true);
        x.put(Checks.HIDELEG, -1);
        x.put(Checks.HVIP, -1);
        x.put(Checks.HIE, -1);
        x.mode(Checks.VU);
        x.interrupt();
        x.line(true);
        x.put(Checks.SIE, -1);
        x.interrupt();
        CHECKS.due("traps to S", x.count(2), 2);
        CHECKS.due("traps to VS", x.count(3), 2);
        CHECKS.due("interrupts", x.count(4), 2);
        x.begin();
        allAsAtFirst("behind traps", x);
    }

    /** One register at a time, so that no other one's reset hides that it is left. */
    private static void behindEveryControlRegister() {
        CHECKS.about("begin: All as at first (All control registers are 0 at first)");
        for (int number : Checks.ALL_KNOWN) {
            TrapDesk x = new TrapDesk();
            x.put(number, -1);
            x.begin();
            allAsAtFirst("behind put(" + number + ")", x);
            x.put(Checks.HIDELEG, -1);
            CHECKS.due("HIDELEG shows no IE of before", x.get(Checks.VSIE), 0);
            CHECKS.due("HIDELEG shows no IP of before", x.get(Checks.VSIP), 0);
        }
    }

    private static void inEveryMode() {
        CHECKS.about("begin: All as at first (Mode S, the PC 0)");
        for (int m = 0; m < 4; m++) {
            for (int pc : new int[] {0, 4, -4, Integer.MIN_VALUE}) {
                TrapDesk x = new TrapDesk();
                x.mode(m);
                x.go(pc);
                x.begin();
                allAsAtFirst("in mode " + m + " at " + pc, x);
            }
        }
    }
}
