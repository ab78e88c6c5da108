/** Promises 3, 4, 7, 8, 9 and 10: mode, go, time, line, set and register. */
public final class PlainStateTest {
    private static final Checks CHECKS = new Checks("PlainState");

    public static void main(String[] args) {
        modes();
        places();
        times();
        lines();
        registers();
        stillThereWhenOff();
        CHECKS.finish();
    }

    private static void modes() {
        TrapDesk x = new TrapDesk();
        int before = 1;
        for (int m : new int[] {0, 2, 3, 1, 1, 3, 0}) {
            CHECKS.due("mode(" + m + ")", x.mode(m), before);
            CHECKS.due("the mode", x.count(0), m);
            before = m;
        }
        for (int m : new int[] {-1, 4, 5, Integer.MIN_VALUE, Integer.MAX_VALUE}) {
            CHECKS.due("mode(" + m + ")", x.mode(m), TrapDesk.BAD);
            CHECKS.due("the mode stays", x.count(0), 0);
        }
    }

    private static void places() {
        TrapDesk x = new TrapDesk();
        for (int pc : new int[] {4, 0, 0x7ffffffc, -4, Integer.MIN_VALUE, 100}) {
            CHECKS.due("go(" + pc + ")", x.go(pc), 0);
            CHECKS.due("the PC", x.count(1), pc);
        }
        for (int pc : new int[] {1, 2, 3, -1, -2, -3, 5, Integer.MAX_VALUE}) {
            CHECKS.due("go(" + pc + ")", x.go(pc), TrapDesk.BAD);
            CHECKS.due("the PC stays", x.count(1), 100);
        }
    }

    private static void times() {
        TrapDesk x = new TrapDesk();
        CHECKS.due("time(5)", x.time(5), 0);
        CHECKS.due("time of 64 bits", x.time(0x1234567890abcdefL), 5);
        CHECKS.due("TIME", x.get(Checks.TIME), 0x90abcdef);
        CHECKS.due("upper TIME", x.get(Checks.TIMEH), 0x12345678);
        CHECKS.due("time(-1)", x.time(-1), TrapDesk.BAD);
        CHECKS.due("time(min)", x.time(Long.MIN_VALUE), TrapDesk.BAD);
        CHECKS.due("time backwards", x.time(0), 0x1234567890abcdefL);
        CHECKS.due("time(max)", x.time(Long.MAX_VALUE), 0);
        CHECKS.due("the last alarm rings at the last time", x.get(Checks.SIP), 32);
        CHECKS.due("time before the last", x.time(Long.MAX_VALUE - 1), Long.MAX_VALUE);
        CHECKS.due("and not before", x.get(Checks.SIP), 0);
    }

    private static void lines() {
        TrapDesk x = new TrapDesk();
        CHECKS.due("line(true)", x.line(true), false);
        CHECKS.due("IP with the line", x.get(Checks.SIP), 1 << 9);
        CHECKS.due("line(true) again", x.line(true), true);
        CHECKS.due("line(false)", x.line(false), true);
        CHECKS.due("IP without it", x.get(Checks.SIP), 0);
        CHECKS.due("line(false) again", x.line(false), false);
    }

    private static void registers() {
        TrapDesk x = new TrapDesk();
        for (int n : new int[] {10, 11, 17}) {
            CHECKS.due("set(" + n + ")", x.set(n, -n), 0);
            CHECKS.due("set(" + n + ") again", x.set(n, n * 3), -n);
        }
        for (int n : new int[] {-1, 0, 1, 9, 12, 16, 18, 31, 32, 42, 43, 49, -22, Integer.MAX_VALUE,
            Integer.MIN_VALUE}) {
            CHECKS.due("set(" + n + ")", x.set(n, 7), 0);
            CHECKS.due("register(" + n + ")", x.register(n), 0);
        }
        CHECKS.due("x10", x.register(10), 30);
        CHECKS.due("x11", x.register(11), 33);
        CHECKS.due("x17", x.register(17), 51);
    }

    private static void stillThereWhenOff() {
        TrapDesk x = new TrapDesk();
        x.set(17, 8);
        CHECKS.due("switching off", x.doWord(Checks.ECALL), TrapDesk.DONE);
        CHECKS.due("off: mode", x.mode(2), 1);
        CHECKS.due("off: the mode", x.count(0), 2);
        CHECKS.due("off: go", x.go(8), 0);
        CHECKS.due("off: the PC", x.count(1), 8);
        CHECKS.due("off: put", x.put(Checks.SSCRATCH, 9), 0);
        CHECKS.due("off: get", x.get(Checks.SSCRATCH), 9);
        CHECKS.due("off: set", x.set(11, 4), 0);
        CHECKS.due("off: register", x.register(11), 4);
        CHECKS.due("off: line", x.line(true), false);
        CHECKS.due("off: time", x.time(3), 0);
        CHECKS.due("off: TIME", x.get(Checks.TIME), 3);
    }
}
