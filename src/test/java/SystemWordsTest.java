/** Promise 11, the words with f 0 and f 4, words that are none, and the traps that words take. */
public final class SystemWordsTest {
    private static final Checks CHECKS = new Checks("SystemWords");
    private static final int ILLEGAL = 2, VIRTUAL = 22;

    public static void main(String[] args) {
        everyWordOfFZero();
        everyWordOfFFour();
        otherOps();
        callsAndBreaks();
        returnFromS();
        returnFromVs();
        switchedOff();
        theEndOfTheAddresses();
        CHECKS.finish();
    }

    private static int byMode(int m, boolean forbiddenInVs) {
        switch (m) {
            case Checks.U: return ILLEGAL;
            case Checks.S: return TrapDesk.DONE;
            case Checks.VU: return VIRTUAL;
            default: return forbiddenInVs ? VIRTUAL : TrapDesk.DONE;
        }
    }

    private static int dueOfFZero(int i, int a, int d, int m, int hstatus) {
        int g = i >> 5;
        if (d != 0) {
            return ILLEGAL;
        }
        if (g == 9) {
            return byMode(m, (hstatus & Checks.VTVM) != 0);
        }
        if (g == 17 || g == 49) {
            return byMode(m, true);
        }
        if (a != 0) {
            return ILLEGAL;
        }
        switch (i) {
            case 0: return m == Checks.S ? TrapDesk.DONE : m == Checks.VS ? 10 : 8;
            case 1: return 3;
            case 258: return byMode(m, (hstatus & Checks.VTSR) != 0);
            case 261: return byMode(m, (hstatus & Checks.VTW) != 0);
            default: return ILLEGAL;
        }
    }

    private static void everyWordOfFZero() {
        int[] hstatus = {0, Checks.VTVM, Checks.VTW, Checks.VTSR, Checks.HU};
        for (int i = 0; i < 4096; i++) {
            for (int a : new int[] {0, 1, 16, 31}) {
                for (int d : new int[] {0, 1, 10, 16}) {
                    for (int m = 0; m < 4; m++) {
                        for (int bits : hstatus) {
                            oneWord(i << 20 | a << 15 | d << 7 | 115, m, bits, dueOfFZero(i, a, d, m, bits), i);
                        }
                    }
                }
            }
        }
    }

    private static void oneWord(int word, int m, int hstatus, int want, int i) {
        TrapDesk x = Checks.in(m);
        x.put(Checks.HSTATUS, hstatus);
        String what = "word " + Integer.toHexString(word) + " in " + m + " with " + Integer.toHexString(hstatus);
        CHECKS.due(what, x.doWord(word), want);
        if (want >= 0) {
            CHECKS.due(what + ", CAUSE", x.get(Checks.SCAUSE), want);
            CHECKS.due(what + ", EPC", x.get(Checks.SEPC), 0x40);
            CHECKS.due(what + ", TVAL", x.get(Checks.STVAL), want == 3 ? 0x40 : want == 8 || want == 10 ? 0 : word);
            CHECKS.due(what + ", the PC", x.count(1), 0x1000);
            CHECKS.due(what + ", the mode", x.count(0), Checks.S);
        } else if (i != 258) {
            CHECKS.due(what + ", the PC", x.count(1), want == TrapDesk.DONE ? 0x44 : 0x40);
            CHECKS.due(what + ", the mode", x.count(0), m);
        }
    }

    private static int dueOfFFour(int g, int b, int d, int m, int hstatus) {
        boolean load = b == 0 && (g == 48 || g == 50 || g == 52) || b == 1 && (g == 48 || g == 50)
                || b == 3 && (g == 50 || g == 52);
        boolean store = d == 0 && (g == 49 || g == 51 || g == 53);
        if (!load && !store) {
            return ILLEGAL;
        }
        if (m >= Checks.VU) {
            return VIRTUAL;
        }
        return m == Checks.U && (hstatus & Checks.HU) == 0 ? ILLEGAL : TrapDesk.OTHER;
    }

    private static void everyWordOfFFour() {
        for (int i = 0; i < 4096; i++) {
            for (int a : new int[] {0, 17}) {
                for (int d : new int[] {0, 10, 16}) {
                    for (int m = 0; m < 4; m++) {
                        for (int bits : new int[] {0, Checks.HU, Checks.VTVM | Checks.VTW | Checks.VTSR}) {
                            int want = dueOfFFour(i >> 5, i & 31, d, m, bits);
                            oneWord(i << 20 | a << 15 | 4 << 12 | d << 7 | 115, m, bits, want, i == 258 ? 0 : i);
                        }
                    }
                }
            }
        }
    }

    private static void otherOps() {
        for (int op = 0; op < 128; op++) {
            if (op != 115) {
                for (int m = 0; m < 4; m++) {
                    oneWord(op, m, 0, ILLEGAL, 0);
                    oneWord(op | Checks.SRET & ~127, m, 0, ILLEGAL, 0);
                    oneWord(op | Checks.control(Checks.TIME, 0, 2, 10) & ~127, m, 0, ILLEGAL, 0);
                }
            }
        }
    }

    private static void callsAndBreaks() {
        TrapDesk x = Checks.in(Checks.VU);
        x.put(Checks.HEDELEG, -1);
        x.put(Checks.VSSTATUS, Checks.IE | Checks.SUM);
        CHECKS.due("ecall in VU", x.doWord(Checks.ECALL), 8);
        CHECKS.due("mode behind ecall in VU", x.count(0), Checks.VS);
        CHECKS.due("VS STATUS", x.get(Checks.VSSTATUS), Checks.PIE | Checks.SUM);
        CHECKS.due("VS EPC", x.get(Checks.VSEPC), 0x40);
        CHECKS.due("the PC in VS", x.count(1), 0x2000);
        CHECKS.due("ebreak in VS", x.doWord(Checks.EBREAK), 3);
        CHECKS.due("VS TVAL of ebreak", x.get(Checks.VSTVAL), 0x2000);
        CHECKS.due("VS STATUS of ebreak", x.get(Checks.VSSTATUS), Checks.PP | Checks.SUM);
        CHECKS.due("illegal in VS", x.doWord(0x1234), ILLEGAL);
        CHECKS.due("VS TVAL of an illegal word", x.get(Checks.VSTVAL), 0x1234);
        CHECKS.due("mode behind it", x.count(0), Checks.VS);
        CHECKS.due("HSTATUS stays", x.get(Checks.HSTATUS), 0);
        CHECKS.due("traps to VS", x.count(3), 3);
        int virtual = Checks.word(17, 0, 0, 0, 0);
        CHECKS.due("virtual in VS", x.doWord(virtual), VIRTUAL);
        CHECKS.due("goes to S", x.count(0), Checks.S);
        CHECKS.due("TVAL of it", x.get(Checks.STVAL), virtual);
        CHECKS.due("HSTATUS of it", x.get(Checks.HSTATUS), Checks.SPV | Checks.SPVP);
        CHECKS.due("VS CAUSE stays", x.get(Checks.VSCAUSE), ILLEGAL);
        CHECKS.due("traps to S", x.count(2), 1);
        x.put(Checks.HEDELEG, 0);
        x.mode(Checks.VU);
        x.go(0x80);
        CHECKS.due("ebreak in VU", x.doWord(Checks.EBREAK), 3);
        CHECKS.due("TVAL of ebreak", x.get(Checks.STVAL), 0x80);
        CHECKS.due("HSTATUS of ebreak", x.get(Checks.HSTATUS), Checks.SPV | Checks.GVA);
        CHECKS.due("ebreak in S", x.doWord(Checks.EBREAK), 3);
        CHECKS.due("HSTATUS of ebreak in S", x.get(Checks.HSTATUS), 0);
        x.mode(Checks.VS);
        x.put(Checks.HTVAL, 5);
        x.put(Checks.HTINST, 6);
        CHECKS.due("ecall in VS", x.doWord(Checks.ECALL), 10);
        CHECKS.due("HTVAL of ecall", x.get(Checks.HTVAL), 0);
        CHECKS.due("HTINST of ecall", x.get(Checks.HTINST), 0);
        CHECKS.due("no interrupts", x.count(4), 0);
    }

    private static void returnFromS() {
        for (int status = 0; status < 16; status++) {
            TrapDesk x = Checks.in(Checks.S);
            boolean ie = (status & 1) != 0, pie = (status & 2) != 0, pp = (status & 4) != 0, spv = (status & 8) != 0;
            x.put(Checks.SSTATUS, (ie ? Checks.IE : 0) | (pie ? Checks.PIE : 0) | (pp ? Checks.PP : 0) | Checks.MXR);
            x.put(Checks.VSSTATUS, Checks.SUM | Checks.IE);
            int others = Checks.GVA | Checks.SPVP | Checks.HU | Checks.VTSR;
            x.put(Checks.HSTATUS, others | (spv ? Checks.SPV : 0));
            x.put(Checks.SEPC, 0x777);
            x.put(Checks.VSEPC, 0x888);
            CHECKS.due("sret in S", x.doWord(Checks.SRET), TrapDesk.DONE);
            CHECKS.due("the mode of " + status, x.count(0), (spv ? 2 : 0) + (pp ? 1 : 0));
            CHECKS.due("the PC", x.count(1), 0x774);
            CHECKS.due("STATUS of " + status, x.get(Checks.SSTATUS),
                    (pie ? Checks.IE : 0) | Checks.PIE | Checks.MXR);
            CHECKS.due("HSTATUS of " + status, x.get(Checks.HSTATUS), others);
            CHECKS.due("VS STATUS stays", x.get(Checks.VSSTATUS), Checks.SUM | Checks.IE);
        }
    }

    private static void returnFromVs() {
        for (int status = 0; status < 8; status++) {
            TrapDesk x = Checks.in(Checks.VS);
            boolean ie = (status & 1) != 0, pie = (status & 2) != 0, pp = (status & 4) != 0;
            x.put(Checks.VSSTATUS, (ie ? Checks.IE : 0) | (pie ? Checks.PIE : 0) | (pp ? Checks.PP : 0) | Checks.SUM);
            x.put(Checks.SSTATUS, Checks.IE | Checks.PP);
            int bits = Checks.GVA | Checks.SPV | Checks.SPVP | Checks.VTW | Checks.VTVM;
            x.put(Checks.HSTATUS, bits);
            x.put(Checks.SEPC, 0x777);
            x.put(Checks.VSEPC, 0x888);
            CHECKS.due("sret in VS", x.doWord(Checks.SRET), TrapDesk.DONE);
            CHECKS.due("the mode of VS " + status, x.count(0), pp ? Checks.VS : Checks.VU);
            CHECKS.due("the PC of VS", x.count(1), 0x888);
            CHECKS.due("VS STATUS of " + status, x.get(Checks.VSSTATUS),
                    (pie ? Checks.IE : 0) | Checks.PIE | Checks.SUM);
            CHECKS.due("HSTATUS stays", x.get(Checks.HSTATUS), bits);
            CHECKS.due("STATUS stays", x.get(Checks.SSTATUS), Checks.IE | Checks.PP);
        }
    }

    private static void switchedOff() {
        TrapDesk x = Checks.in(Checks.S);
        x.set(17, 8);
        x.set(10, 44);
        CHECKS.due("switching off", x.doWord(Checks.ECALL), TrapDesk.DONE);
        CHECKS.due("x10 behind it", x.register(10), 0);
        CHECKS.due("the PC behind it", x.count(1), 0x44);
        int[] words = {Checks.ECALL, Checks.EBREAK, 0, Checks.WFI, Checks.word(48, 0, 0, 4, 0)};
        for (int word : words) {
            CHECKS.due("off: word " + word, x.doWord(word), TrapDesk.OFF);
        }
        CHECKS.due("off: the PC", x.count(1), 0x44);
        CHECKS.due("off: traps", x.count(2), 0);
    }

    private static void theEndOfTheAddresses() {
        TrapDesk x = Checks.in(Checks.S);
        x.go(-4);
        CHECKS.due("wfi at the last place", x.doWord(Checks.WFI), TrapDesk.DONE);
        CHECKS.due("the PC goes on at 0", x.count(1), 0);
        x.go(0x7ffffffc);
        x.doWord(Checks.WFI);
        CHECKS.due("the PC in the middle", x.count(1), 0x80000000);
    }
}
