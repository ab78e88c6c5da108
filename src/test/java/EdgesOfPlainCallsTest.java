/** The edges of promises 3, 4, 7, 8, 9, 10, 14, 15 and of the first section, a sentence at a time. */
public final class EdgesOfPlainCallsTest {
    private static final Checks CHECKS = new Checks("EdgesOfPlainCalls");
    private static final int CALLS_OF_AN_OBJECT = 512;

    public static void main(String[] args) {
        used512Times();
        printedAndAsked512Times();
        everyModeThereIs();
        aModeThatThereIsNot();
        everyPcThatIsAMultiple();
        aPcThatIsNoMultiple();
        theFirstAndLastTimes();
        aTimeBelowZero();
        theLineTwice();
        registersThatThereAre();
        registersThatThereAreNot();
        everyCount();
        aCountThatThereIsNot();
        anEmptyConsole();
        aConsoleAskedOutside();
        bytesAreFrom0To255();
        CHECKS.finish();
    }

    private static void used512Times() {
        CHECKS.about("An object is used for at most 512 calls after it has been made");
        TrapDesk x = new TrapDesk();
        for (int i = 1; i < CALLS_OF_AN_OBJECT; i++) {
            x.fail(5, 0, false, 0, false);
        }
        CHECKS.due("traps told by the last call", x.count(2), CALLS_OF_AN_OBJECT - 1);
        TrapDesk y = Checks.in(Checks.VU);
        y.put(Checks.HEDELEG, -1);
        for (int i = 6; i < CALLS_OF_AN_OBJECT; i++) {
            y.doWord(Checks.EBREAK);
        }
        CHECKS.due("traps to VS told by the last call", y.count(3), CALLS_OF_AN_OBJECT - 6);
        TrapDesk z = Checks.in(Checks.U);
        z.line(true);
        z.put(Checks.SIE, -1);
        int pairs = (CALLS_OF_AN_OBJECT - 7) / 2;
        for (int i = 0; i < pairs; i++) {
            z.mode(Checks.U);
            CHECKS.due("an interrupt again", z.interrupt(), 9);
        }
        CHECKS.due("interrupts told by the last call", z.count(4), pairs);
    }

    private static void printedAndAsked512Times() {
        CHECKS.about("An object is used for at most 512 calls; the CONSOLE (of 256 bytes; more are lost)");
        TrapDesk x = new TrapDesk();
        x.set(17, 1);
        x.set(10, 'A');
        for (int i = 4; i < CALLS_OF_AN_OBJECT; i++) {
            CHECKS.due("print " + i, x.doWord(Checks.ECALL), TrapDesk.DONE);
        }
        CHECKS.due("bytes told by the last call but one", x.count(5), 256);
        CHECKS.due("the last byte told by the last call", x.console(255), 0);
    }

    private static void everyModeThereIs() {
        CHECKS.about("mode: Another mode: the one before");
        for (int from = 0; from < 4; from++) {
            for (int to = 0; to < 4; to++) {
                TrapDesk x = Checks.busy(from);
                State due = State.of(x).mode(to);
                CHECKS.due("from " + from + " to " + to, x.mode(to), from);
                CHECKS.due("nothing else", x, due);
            }
        }
    }

    private static void aModeThatThereIsNot() {
        CHECKS.about("mode: BAD: there is none such");
        for (int from = 0; from < 4; from++) {
            for (int m : new int[] {-1, 4, 5, 8, 0x100, 0x103, -4, Integer.MIN_VALUE, Integer.MAX_VALUE}) {
                TrapDesk x = Checks.busy(from);
                CHECKS.refused("mode(" + m + ")", x, State.of(x), x.mode(m), TrapDesk.BAD);
            }
        }
    }

    private static void everyPcThatIsAMultiple() {
        CHECKS.about("go: Another PC: 0");
        for (int pc : new int[] {0, 4, 8, 0x40, 0x7ffffffc, Integer.MIN_VALUE, Integer.MIN_VALUE + 4, -8, -4}) {
            TrapDesk x = Checks.busy(Checks.VS);
            State due = State.of(x).pc(pc);
            CHECKS.due("go(" + pc + ")", x.go(pc), 0);
            CHECKS.due("nothing else", x, due);
        }
    }

    private static void aPcThatIsNoMultiple() {
        CHECKS.about("go: BAD: it is no multiple of 4");
        int[] wrong = {1, 2, 3, 5, 6, 7, 0x41, 0x42, 0x43, -1, -2, -3, Integer.MAX_VALUE, Integer.MAX_VALUE - 1,
            Integer.MAX_VALUE - 2, Integer.MIN_VALUE + 1, Integer.MIN_VALUE + 2, Integer.MIN_VALUE + 3};
        for (int pc : wrong) {
            TrapDesk x = Checks.busy(Checks.S);
            CHECKS.refused("go(" + pc + ")", x, State.of(x), x.go(pc), TrapDesk.BAD);
        }
    }

    private static void theFirstAndLastTimes() {
        CHECKS.about("time: Another TIME: the one before; TIME is a number of 64 bits");
        TrapDesk x = new TrapDesk();
        long before = 0;
        long[] times = {1, 0, 0xffffffffL, 0x100000000L, 0x80000000L, 0x7fffffff00000000L, Long.MAX_VALUE, 0, 0};
        for (long t : times) {
            CHECKS.due("time(" + t + ")", x.time(t), before);
            CHECKS.due("its lower bits", x.get(Checks.TIME), (int) t);
            CHECKS.due("its upper bits", x.get(Checks.TIMEH), (int) (t >> 32));
            before = t;
        }
    }

    private static void aTimeBelowZero() {
        CHECKS.about("time: BAD: it is below 0");
        for (long t : new long[] {-1, -2, -0x100000000L, 0xffffffff00000001L, Long.MIN_VALUE, Long.MIN_VALUE + 1}) {
            TrapDesk x = Checks.busy(Checks.U);
            CHECKS.refused("time(" + t + ")", x, State.of(x), x.time(t), TrapDesk.BAD);
            CHECKS.due("the TIME that stayed", x.time(0), 0x300000005L);
        }
    }

    private static void theLineTwice() {
        CHECKS.about("line: The line goes on or off: whether it was on");
        for (int m = 0; m < 4; m++) {
            TrapDesk x = Checks.busy(m);
            CHECKS.refused("on again", x, State.of(x), x.line(true) ? 1 : 0, 1);
            State off = State.of(x).control(Checks.SIP, 1 << 1);
            CHECKS.due("off", x.line(false), true);
            CHECKS.due("nothing else goes", x, off);
            CHECKS.refused("off again", x, off, x.line(false) ? 1 : 0, 0);
            CHECKS.due("on", x.line(true), false);
            CHECKS.due("nothing else comes", x, off.control(Checks.SIP, 1 << 1 | 1 << 9));
        }
    }

    private static void registersThatThereAre() {
        CHECKS.about("set: A register (10, 11, 17) becomes v: what it was");
        for (int n : new int[] {10, 11, 17}) {
            for (int v : new int[] {0, 1, -1, Integer.MIN_VALUE, Integer.MAX_VALUE}) {
                TrapDesk x = Checks.busy(Checks.VU);
                State due = State.of(x).register(n, v);
                CHECKS.due("set(" + n + ", " + v + ")", x.set(n, v), n == 10 ? 0x1234 : n == 11 ? -7 : 3);
                CHECKS.due("nothing else", x, due);
                CHECKS.due("set again", x.set(n, 5), v);
            }
        }
    }

    private static void registersThatThereAreNot() {
        CHECKS.about("set: 0, changing nothing: another one; register: 0: another one");
        int[] far = {-1, -10, -17, 32, 33, 42, 43, 49, 64 + 10, 256 + 11, 0x10000 + 17, 0x8000000a,
            Integer.MIN_VALUE, Integer.MAX_VALUE};
        for (int n = 0; n < 32 + far.length; n++) {
            int number = n < 32 ? n : far[n - 32];
            if (number != 10 && number != 11 && number != 17) {
                TrapDesk x = Checks.busy(Checks.S);
                CHECKS.refused("set(" + number + ")", x, State.of(x), x.set(number, -1), 0);
                CHECKS.due("set(" + number + ") again", x.set(number, 2), 0);
                CHECKS.refused("register(" + number + ")", x, State.of(x), x.register(number), 0);
            }
        }
    }

    private static void everyCount() {
        CHECKS.about("count: 0 the mode, 1 the PC, 2 traps to S, 3 traps to VS, .. 8 its upper one");
        TrapDesk x = Checks.busy(Checks.VS);
        int[] due = {Checks.VS, 0x40, 2, 1, 1, 2, 0, 6, 3};
        for (int which = 0; which < due.length; which++) {
            CHECKS.due("count(" + which + ")", x.count(which), due[which]);
        }
        CHECKS.due("count(6) when off", Checks.busyAndOff(Checks.VS).count(6), 1);
    }

    private static void aCountThatThereIsNot() {
        CHECKS.about("count: BAD: another number");
        for (int which : new int[] {-1, -2, -8, 9, 10, 16, 32, 0x100, 0x108, Integer.MIN_VALUE, Integer.MAX_VALUE}) {
            TrapDesk x = Checks.busy(Checks.S);
            CHECKS.refused("count(" + which + ")", x, State.of(x), x.count(which), TrapDesk.BAD);
        }
    }

    private static void anEmptyConsole() {
        CHECKS.about("console: BAD: there is none; an empty console at first");
        TrapDesk x = new TrapDesk();
        for (int i : new int[] {0, 1, 255, 256, -1, Integer.MIN_VALUE, Integer.MAX_VALUE}) {
            CHECKS.due("empty console(" + i + ")", x.console(i), TrapDesk.BAD);
        }
        CHECKS.due("no bytes", x.count(5), 0);
    }

    private static void aConsoleAskedOutside() {
        CHECKS.about("console: BAD: there is none");
        for (int i : new int[] {-1, 2, 3, 254, 255, 256, 257, -256, 0x100 - 0x10000, Integer.MIN_VALUE,
            Integer.MAX_VALUE}) {
            TrapDesk x = Checks.busy(Checks.S);
            CHECKS.refused("console(" + i + ") of two bytes", x, State.of(x), x.console(i), TrapDesk.BAD);
        }
    }

    private static void bytesAreFrom0To255() {
        CHECKS.about("console: Byte i of the console, 0 .. 255");
        TrapDesk x = new TrapDesk();
        int[] values = {0, 1, 127, 128, 254, 255, 256, 511, -1, -128, -129, -256, Integer.MIN_VALUE, Integer.MAX_VALUE};
        for (int v : values) {
            Checks.firmware(x, 1, v, 0);
        }
        for (int i = 0; i < values.length; i++) {
            CHECKS.due("console(" + i + ") of " + values[i], x.console(i), Math.floorMod(values[i], 256));
        }
    }
}
