/** Counts the answers of one test that are not the ones due, and builds words. */
final class Checks {
    static final int SATP = 0x180, SSTATUS = 0x100, SIE = 0x104, STVEC = 0x105, SSCRATCH = 0x140, SEPC = 0x141,
            SCAUSE = 0x142, STVAL = 0x143, SIP = 0x144;
    static final int VSSTATUS = 0x200, VSIE = 0x204, VSTVEC = 0x205, VSSCRATCH = 0x240, VSEPC = 0x241,
            VSCAUSE = 0x242, VSTVAL = 0x243, VSIP = 0x244, VSATP = 0x280;
    static final int HSTATUS = 0x600, HEDELEG = 0x602, HIDELEG = 0x603, HIE = 0x604, HTVAL = 0x643, HIP = 0x644,
            HVIP = 0x645, HTINST = 0x64a, HGATP = 0x680;
    static final int TIME = 0xc01, TIMEH = 0xc81;
    static final int[] ALL_KNOWN = {SSTATUS, SIE, STVEC, SSCRATCH, SEPC, SCAUSE, STVAL, SIP, SATP,
        VSSTATUS, VSIE, VSTVEC, VSSCRATCH, VSEPC, VSCAUSE, VSTVAL, VSIP, VSATP,
        HSTATUS, HEDELEG, HIDELEG, HIE, HTVAL, HIP, HVIP, HTINST, HGATP, TIME, TIMEH};

    static final int U = 0, S = 1, VU = 2, VS = 3;
    static final int GVA = 1 << 6, SPV = 1 << 7, SPVP = 1 << 8, HU = 1 << 9;
    static final int VTVM = 1 << 20, VTW = 1 << 21, VTSR = 1 << 22;
    static final int IE = 1 << 1, PIE = 1 << 5, PP = 1 << 8, SUM = 1 << 18, MXR = 1 << 19;

    static final int ECALL = 115, EBREAK = 1 << 20 | 115, SRET = 258 << 20 | 115, WFI = 261 << 20 | 115;

    private final String test;
    private String sentence = "";
    private int asked;
    private int wrong;

    Checks(String test) {
        this.test = test;
    }

    /** The sentence of the document that the next answers are about: a wrong one is printed with it. */
    void about(String words) {
        sentence = " [" + words + "]";
    }

    void due(String what, long got, long want) {
        asked++;
        if (got != want) {
            wrong++;
            System.out.println(test + sentence + ": " + what + " answered " + got + ", due is " + want);
        }
    }

    void due(String what, boolean got, boolean want) {
        due(what, got ? 1 : 0, want ? 1 : 0);
    }

    /** All that can be seen of the object is as it is due. */
    void due(String what, TrapDesk x, State want) {
        asked++;
        String difference = State.of(x).differenceFrom(want);
        if (!difference.isEmpty()) {
            wrong++;
            System.out.println(test + sentence + ": " + what + ":" + difference);
        }
    }

    /** A call that is refused, or that does nothing: its answer, and nothing has changed. */
    void refused(String what, TrapDesk x, State before, long got, long want) {
        due(what, got, want);
        due(what + " changes nothing", x, before);
    }

    void finish() {
        System.out.println(test + ": " + asked + " answers, " + wrong + " wrong");
        if (wrong != 0) {
            System.exit(1);
        }
    }

    static boolean isKnown(int number) {
        for (int known : ALL_KNOWN) {
            if (known == number) {
                return true;
            }
        }
        return false;
    }

    static int word(int g, int b, int a, int f, int d) {
        return g << 25 | b << 20 | a << 15 | f << 12 | d << 7 | 115;
    }

    static int control(int number, int a, int f, int d) {
        return number << 20 | a << 15 | f << 12 | d << 7 | 115;
    }

    /** A new object that has been brought to this mode, at PC 0x40, with handlers at 0x1000 (S) and 0x2000 (VS). */
    static TrapDesk in(int mode) {
        TrapDesk x = new TrapDesk();
        x.put(STVEC, 0x1000);
        x.put(VSTVEC, 0x2000);
        x.go(0x40);
        x.mode(mode);
        return x;
    }

    /**
     * As in(mode), but nothing that can be seen is as at first, so that it shows if a call changes what it must not.
     * It takes some 40 calls of the 512.
     */
    static TrapDesk busy(int mode) {
        TrapDesk x = new TrapDesk();
        firmware(x, 1, 'b', 0);
        firmware(x, 1, 0xf0, 0);
        firmware(x, 0, 6, 3);
        x.time(0x300000005L);
        x.line(true);
        x.fail(5, 0x51, false, 0, false);
        x.put(HEDELEG, 1 << 5);
        x.mode(VU);
        x.fail(5, 0x52, false, 0, false);
        x.put(HEDELEG, 0);
        x.put(SIE, 1 << 9);
        x.interrupt();
        putDifferentValues(x);
        x.set(10, 0x1234);
        x.set(11, -7);
        x.set(17, 3);
        x.go(0x40);
        x.mode(mode);
        return x;
    }

    private static void putDifferentValues(TrapDesk x) {
        for (int bank = 0x100; bank <= 0x200; bank += 0x100) {
            x.put(bank + 0x40, bank + 1);
            x.put(bank + 0x41, bank + 4);
            x.put(bank + 0x42, bank + 3);
            x.put(bank + 0x43, bank + 5);
            x.put(bank + 0x80, bank + 6);
        }
        x.put(SSTATUS, PIE | SUM);
        x.put(VSSTATUS, PIE | PP | MXR);
        x.put(STVEC, 0x1000);
        x.put(VSTVEC, 0x2000);
        x.put(SIE, 1 << 5);
        x.put(SIP, 1 << 1);
        x.put(HSTATUS, SPVP);
        x.put(HIDELEG, 1 << 2 | 1 << 6);
        x.put(HIE, 1 << 2 | 1 << 10);
        x.put(HVIP, 1 << 6 | 1 << 10);
        x.put(HTVAL, 0x643);
        x.put(HTINST, 0x64a);
        x.put(HGATP, 0x680);
    }

    /** A call of the firmware, in S. */
    static int firmware(TrapDesk x, int x17, int x10, int x11) {
        x.set(17, x17);
        x.set(10, x10);
        x.set(11, x11);
        return x.doWord(ECALL);
    }

    /** As busy(mode), but the machine is off. */
    static TrapDesk busyAndOff(int mode) {
        TrapDesk x = busy(S);
        x.set(17, 8);
        x.doWord(ECALL);
        x.set(10, 0x1234);
        x.mode(mode);
        return x;
    }
}
