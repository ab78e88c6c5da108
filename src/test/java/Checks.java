/** Counts the answers of one test that are not the ones due, and builds words. */
final class Checks {
    static final int SATP = 0x180, SSTATUS = 0x100, SIE = 0x104, STVEC = 0x105, SSCRATCH = 0x140, SEPC = 0x141,
            SCAUSE = 0x142, STVAL = 0x143, SIP = 0x144;
    static final int VSSTATUS = 0x200, VSIE = 0x204, VSTVEC = 0x205, VSSCRATCH = 0x240, VSEPC = 0x241,
            VSCAUSE = 0x242, VSTVAL = 0x243, VSIP = 0x244, VSATP = 0x280;
    static final int HSTATUS = 0x600, HEDELEG = 0x602, HIDELEG = 0x603, HIE = 0x604, HTVAL = 0x643, HIP = 0x644,
            HVIP = 0x645, HTINST = 0x64a, HGATP = 0x680;
    static final int TIME = 0xc01, TIMEH = 0xc81;
    static final int[] ALL_KNOWN = {SSTATUS, SIE, STVEC, SSCRATCH, SEPC, SCAUSE, STVAL, SIP, SATP,
        VSSTATUS, VSIE, VSTVEC, VSSCRATCH, VSEPC, VSCAUSE, VSTVAL, VSIP, VSATP,
        HSTATUS, HEDELEG, HIDELEG, HIE, HTVAL, HIP, HVIP, HTINST, HGATP, TIME, TIMEH};

    static final int U = 0, S = 1, VU = 2, VS = 3;
    static final int GVA = 1 << 6, SPV = 1 << 7, SPVP = 1 << 8, HU = 1 << 9;
    static final int VTVM = 1 << 20, VTW = 1 << 21, VTSR = 1 << 22;
    static final int IE = 1 << 1, PIE = 1 << 5, PP = 1 << 8, SUM = 1 << 18, MXR = 1 << 19;

    static final int ECALL = 115, EBREAK = 1 << 20 | 115, SRET = 258 << 20 | 115, WFI = 261 << 20 | 115;

    private final String test;
    private int asked;
    private int wrong;

    Checks(String test) {
        this.test = test;
    }

    void due(String what, long got, long want) {
        asked++;
        if (got != want) {
            wrong++;
            System.out.println(test + ": " + what + " answered " + got + ", due is " + want);
        }
    }

    void due(String what, boolean got, boolean want) {
        due(what, got ? 1 : 0, want ? 1 : 0);
    }

    void finish() {
        System.out.println(test + ": " + asked + " answers, " + wrong + " wrong");
        if (wrong != 0) {
            System.exit(1);
        }
    }

    static boolean isKnown(int number) {
        for (int known : ALL_KNOWN) {
            if (known == number) {
                return true;
            }
        }
        return false;
    }

    static int word(int g, int b, int a, int f, int d) {
        return g << 25 | b << 20 | a << 15 | f << 12 | d << 7 | 115;
    }

    static int control(int number, int a, int f, int d) {
        return number << 20 | a << 15 | f << 12 | d << 7 | 115;
    }

    /** A new object that has been brought to this mode, at PC 0x40, with handlers at 0x1000 (S) and 0x2000 (VS). */
    static TrapDesk in(int mode) {
        TrapDesk x = new TrapDesk();
        x.put(STVEC, 0x1000);
        x.put(VSTVEC, 0x2000);
        x.go(0x40);
        x.mode(mode);
        return x;
    }
}
