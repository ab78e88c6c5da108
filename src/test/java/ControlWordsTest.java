/** Promise 11, the words that read and write control registers. */
public final class ControlWordsTest {
    private static final Checks CHECKS = new Checks("ControlWords");
    private static final int ILLEGAL = 2, VIRTUAL = 22;

    public static void main(String[] args) {
        whatIsWritten();
        fieldAsNumber();
        whatCountsAsAWrite();
        sameRegisterTwice();
        otherRegisters();
        accessOfEveryNumber();
        namesInVs();
        viewsInWords();
        CHECKS.finish();
    }

    private static void whatIsWritten() {
        TrapDesk x = Checks.in(Checks.S);
        x.put(Checks.SSCRATCH, 0b1100);
        x.set(10, 0b1010);
        CHECKS.due("write", x.doWord(Checks.control(Checks.SSCRATCH, 10, 1, 11)), TrapDesk.DONE);
        CHECKS.due("what it was", x.register(11), 0b1100);
        CHECKS.due("written", x.get(Checks.SSCRATCH), 0b1010);
        CHECKS.due("the PC", x.count(1), 0x44);
        x.put(Checks.SSCRATCH, 0b1100);
        CHECKS.due("set", x.doWord(Checks.control(Checks.SSCRATCH, 10, 2, 17)), TrapDesk.DONE);
        CHECKS.due("what it was before set", x.register(17), 0b1100);
        CHECKS.due("bits set", x.get(Checks.SSCRATCH), 0b1110);
        x.put(Checks.SSCRATCH, 0b1100);
        CHECKS.due("clear", x.doWord(Checks.control(Checks.SSCRATCH, 10, 3, 11)), TrapDesk.DONE);
        CHECKS.due("what it was before clear", x.register(11), 0b1100);
        CHECKS.due("bits cleared", x.get(Checks.SSCRATCH), 0b0100);
        CHECKS.due("x10 stays", x.register(10), 0b1010);
        CHECKS.due("the PC behind three", x.count(1), 0x4c);
    }

    private static void fieldAsNumber() {
        TrapDesk x = Checks.in(Checks.S);
        x.set(10, -1);
        x.put(Checks.SSCRATCH, 0b11100);
        CHECKS.due("write of a field", x.doWord(Checks.control(Checks.SSCRATCH, 10, 5, 0)), TrapDesk.DONE);
        CHECKS.due("the field", x.get(Checks.SSCRATCH), 10);
        x.put(Checks.SSCRATCH, -256);
        CHECKS.due("set by a field", x.doWord(Checks.control(Checks.SSCRATCH, 31, 6, 11)), TrapDesk.DONE);
        CHECKS.due("set", x.get(Checks.SSCRATCH), -225);
        CHECKS.due("told", x.register(11), -256);
        CHECKS.due("clear by a field", x.doWord(Checks.control(Checks.SSCRATCH, 17, 7, 17)), TrapDesk.DONE);
        CHECKS.due("cleared", x.get(Checks.SSCRATCH), -225 & ~17);
        CHECKS.due("told before clear", x.register(17), -225);
    }

    private static void whatCountsAsAWrite() {
        TrapDesk x = Checks.in(Checks.S);
        x.time(0x600000005L);
        for (int f : new int[] {2, 3, 6, 7}) {
            CHECKS.due("reading TIME by " + f, x.doWord(Checks.control(Checks.TIME, 0, f, 10)), TrapDesk.DONE);
            CHECKS.due("TIME", x.register(10), 5);
            CHECKS.due("reading upper TIME by " + f, x.doWord(Checks.control(Checks.TIMEH, 0, f, 10)), TrapDesk.DONE);
            CHECKS.due("upper TIME", x.register(10), 6);
            CHECKS.due("field a 5 by " + f, x.doWord(Checks.control(Checks.TIME, 5, f, 10)), ILLEGAL);
            CHECKS.due("x10 stays", x.register(10), 6);
        }
        for (int f : new int[] {1, 5}) {
            CHECKS.due("writing TIME by " + f, x.doWord(Checks.control(Checks.TIME, 0, f, 0)), ILLEGAL);
            CHECKS.due("writing upper TIME by " + f, x.doWord(Checks.control(Checks.TIMEH, 0, f, 0)), ILLEGAL);
        }
        x.put(Checks.SSCRATCH, 77);
        CHECKS.due("write of x0", x.doWord(Checks.control(Checks.SSCRATCH, 0, 1, 0)), TrapDesk.DONE);
        CHECKS.due("it is 0", x.get(Checks.SSCRATCH), 0);
        x.put(Checks.SSCRATCH, 77);
        CHECKS.due("write of field 0", x.doWord(Checks.control(Checks.SSCRATCH, 0, 5, 0)), TrapDesk.DONE);
        CHECKS.due("it is 0 again", x.get(Checks.SSCRATCH), 0);
    }

    private static void sameRegisterTwice() {
        TrapDesk x = Checks.in(Checks.S);
        x.put(Checks.SSCRATCH, 5);
        x.set(10, 9);
        x.doWord(Checks.control(Checks.SSCRATCH, 10, 1, 10));
        CHECKS.due("exchanged, x10", x.register(10), 5);
        CHECKS.due("exchanged, SCRATCH", x.get(Checks.SSCRATCH), 9);
    }

    private static void otherRegisters() {
        TrapDesk x = Checks.in(Checks.S);
        x.put(Checks.SSCRATCH, 5);
        for (int n = 0; n < 32; n++) {
            boolean real = n == 10 || n == 11 || n == 17;
            x.set(n, 3);
            x.put(Checks.SSCRATCH, 5);
            x.doWord(Checks.control(Checks.SSCRATCH, n, 1, n));
            CHECKS.due("x" + n + " written", x.get(Checks.SSCRATCH), real ? 3 : 0);
            CHECKS.due("x" + n + " got", x.register(n), real ? 5 : 0);
        }
    }

    private static void accessOfEveryNumber() {
        for (int number = 0; number < 4096; number++) {
            for (int m = 0; m < 4; m++) {
                for (int bits : new int[] {0, Checks.VTVM, Checks.VTW | Checks.VTSR | Checks.HU}) {
                    accessOf(number, m, bits, false);
                    accessOf(number, m, bits, true);
                }
            }
        }
    }

    private static void accessOf(int number, int m, int hstatus, boolean write) {
        TrapDesk x = Checks.in(m);
        x.put(Checks.HSTATUS, hstatus);
        x.set(10, 99);
        int want = dueOf(number, m, hstatus, write);
        int word = Checks.control(number, write ? 1 : 0, write ? 7 : 2, 10);
        String what = "access of " + number + " in " + m + " write " + write + " hstatus " + hstatus;
        CHECKS.due(what, x.doWord(word), want);
        if (want == TrapDesk.DONE) {
            CHECKS.due(what + ", the PC", x.count(1), 0x44);
            CHECKS.due(what + ", the mode", x.count(0), m);
        } else {
            CHECKS.due(what + ", the handler", x.count(1), 0x1000);
            CHECKS.due(what + ", TVAL", x.get(Checks.STVAL), word);
            CHECKS.due(what + ", CAUSE", x.get(Checks.SCAUSE), want);
            CHECKS.due(what + ", x10", x.register(10), 99);
        }
    }

    private static int dueOf(int number, int m, int hstatus, boolean write) {
        if (!Checks.isKnown(number)) {
            return ILLEGAL;
        }
        if (number == Checks.TIME || number == Checks.TIMEH) {
            return write ? ILLEGAL : TrapDesk.DONE;
        }
        if (m == Checks.S) {
            return TrapDesk.DONE;
        }
        if (m == Checks.U) {
            return ILLEGAL;
        }
        if (m == Checks.VU || number >= 0x200) {
            return VIRTUAL;
        }
        return number == Checks.SATP && (hstatus & Checks.VTVM) != 0 ? VIRTUAL : TrapDesk.DONE;
    }

    private static void namesInVs() {
        int[] kinds = {0x00, 0x05, 0x40, 0x41, 0x42, 0x43, 0x80};
        for (int kind : kinds) {
            TrapDesk x = Checks.in(Checks.VS);
            x.put(0x100 + kind, 0x20);
            x.put(0x200 + kind, 0x20);
            x.set(10, 0x100);
            CHECKS.due("kind " + kind, x.doWord(Checks.control(0x100 + kind, 10, 2, 11)), TrapDesk.DONE);
            CHECKS.due("told of kind " + kind, x.register(11), 0x20);
            CHECKS.due("VS one of kind " + kind, x.get(0x200 + kind), 0x120);
            CHECKS.due("S one of kind " + kind, x.get(0x100 + kind), 0x20);
        }
        TrapDesk x = Checks.in(Checks.S);
        x.set(10, 0x100);
        x.doWord(Checks.control(Checks.VSSCRATCH, 10, 1, 0));
        CHECKS.due("in S a VS number is the VS one", x.get(Checks.VSSCRATCH), 0x100);
        x.doWord(Checks.control(Checks.SSCRATCH, 11, 1, 0));
        CHECKS.due("in S an S number is the S one", x.get(Checks.VSSCRATCH), 0x100);
    }

    private static void viewsInWords() {
        TrapDesk x = Checks.in(Checks.VS);
        x.put(Checks.HIDELEG, 0x444);
        x.line(true);
        x.set(10, -1);
        CHECKS.due("IE in VS", x.doWord(Checks.control(Checks.SIE, 10, 1, 0)), TrapDesk.DONE);
        CHECKS.due("HIE by it", x.get(Checks.HIE), 0x444);
        CHECKS.due("S IE not", x.get(Checks.SIE), 0);
        CHECKS.due("IP in VS", x.doWord(Checks.control(Checks.SIP, 10, 2, 11)), TrapDesk.DONE);
        CHECKS.due("no line in it", x.register(11), 0);
        CHECKS.due("HVIP by it", x.get(Checks.HVIP), 4);
        x.put(Checks.HVIP, 0x444);
        CHECKS.due("IP cleared in VS", x.doWord(Checks.control(Checks.SIP, 2, 7, 11)), TrapDesk.DONE);
        CHECKS.due("IP told in VS", x.register(11), 0x222);
        CHECKS.due("HVIP behind it", x.get(Checks.HVIP), 0x440);
        x.mode(Checks.S);
        CHECKS.due("IP set in S", x.doWord(Checks.control(Checks.SIP, 2, 6, 11)), TrapDesk.DONE);
        CHECKS.due("IP told in S", x.register(11), 0x200);
        CHECKS.due("IP behind it", x.get(Checks.SIP), 0x202);
        x.put(Checks.HVIP, 0x40);
        CHECKS.due("HIP set in S", x.doWord(Checks.control(Checks.HIP, 4, 6, 11)), TrapDesk.DONE);
        CHECKS.due("HIP told", x.register(11), 0x40);
        CHECKS.due("HVIP by HIP", x.get(Checks.HVIP), 0x44);
    }
}
