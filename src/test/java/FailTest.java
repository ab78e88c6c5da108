/** Promise 12: fail, and what a trap of an exception leaves. */
public final class FailTest {
    private static final Checks CHECKS = new Checks("Fail");
    private static final int[] TOLD = {0, 1, 4, 5, 6, 7, 12, 13, 15, 20, 21, 23};
    private static final long END = 1L << 34;

    public static void main(String[] args) {
        whichExceptions();
        whichAddresses();
        trapsToS();
        trapsToVs();
        notDelegatedOutsideVirtualModes();
        statusOfS();
        previousVirtualModeStays();
        secondStage();
        handlersOfExceptions();
        switchedOff();
        CHECKS.finish();
    }

    private static boolean isTold(int exception) {
        for (int told : TOLD) {
            if (told == exception) {
                return true;
            }
        }
        return false;
    }

    private static void whichExceptions() {
        for (int exception = -70; exception < 140; exception++) {
            TrapDesk x = Checks.in(Checks.U);
            CHECKS.due("fail(" + exception + ")", x.fail(exception, 9, false, 0, false),
                    isTold(exception) ? 1 : TrapDesk.BAD);
            CHECKS.due("traps of " + exception, x.count(2), isTold(exception) ? 1 : 0);
            CHECKS.due("the PC of " + exception, x.count(1), isTold(exception) ? 0x1000 : 0x40);
        }
        TrapDesk x = Checks.in(Checks.U);
        CHECKS.due("fail(min)", x.fail(Integer.MIN_VALUE, 0, false, 0, false), TrapDesk.BAD);
        CHECKS.due("fail(max)", x.fail(Integer.MAX_VALUE, 0, false, 0, false), TrapDesk.BAD);
    }

    private static void whichAddresses() {
        for (int exception : TOLD) {
            TrapDesk x = Checks.in(Checks.S);
            for (long second : new long[] {-1, END, END + 1, Long.MIN_VALUE, Long.MAX_VALUE, 1L << 40}) {
                CHECKS.due("second " + second, x.fail(exception, 1, false, second, false), TrapDesk.BAD);
            }
            CHECKS.due("no trap", x.count(2), 0);
            CHECKS.due("the last address", x.fail(exception, 1, false, END - 1, false), Checks.S);
            CHECKS.due("the first address", x.fail(exception, 1, false, 0, false), Checks.S);
            CHECKS.due("two traps", x.count(2), 2);
        }
    }

    private static void trapsToS() {
        for (int exception : TOLD) {
            for (int m = 0; m < 4; m++) {
                for (int far = 0; far < 2; far++) {
                    TrapDesk x = Checks.in(m);
                    x.put(Checks.HTVAL, 55);
                    x.put(Checks.HTINST, 66);
                    x.put(Checks.HSTATUS, Checks.GVA | Checks.SPV | Checks.HU | Checks.VTW);
                    String what = "exception " + exception + " in " + m + " far " + far;
                    CHECKS.due(what, x.fail(exception, 0x12345, far == 1, 0x2345678cfL, true), Checks.S);
                    boolean guest = exception >= 20;
                    boolean virtual = m >= Checks.VU;
                    CHECKS.due(what + ", EPC", x.get(Checks.SEPC), 0x40);
                    CHECKS.due(what + ", CAUSE", x.get(Checks.SCAUSE), exception);
                    CHECKS.due(what + ", TVAL", x.get(Checks.STVAL), 0x12345);
                    CHECKS.due(what + ", HTVAL", x.get(Checks.HTVAL), guest ? (int) (0x2345678cfL >> 2) : 0);
                    CHECKS.due(what + ", HTINST", x.get(Checks.HTINST), guest ? 0x2000 : 0);
                    CHECKS.due(what + ", HSTATUS", x.get(Checks.HSTATUS), Checks.HU | Checks.VTW
                            | (virtual || far == 1 ? Checks.GVA : 0) | (virtual ? Checks.SPV : 0)
                            | (m == Checks.VS ? Checks.SPVP : 0));
                    CHECKS.due(what + ", STATUS", x.get(Checks.SSTATUS),
                            m == Checks.S || m == Checks.VS ? Checks.PP : 0);
                    CHECKS.due(what + ", the mode", x.count(0), Checks.S);
                    CHECKS.due(what + ", the PC", x.count(1), 0x1000);
                    CHECKS.due(what + ", VS EPC", x.get(Checks.VSEPC), 0);
                    CHECKS.due(what + ", traps", x.count(2) * 100 + x.count(3) * 10 + x.count(4), 100);
                }
            }
        }
    }

    private static void trapsToVs() {
        for (int exception : TOLD) {
            for (int m : new int[] {Checks.VU, Checks.VS}) {
                TrapDesk x = Checks.in(m);
                x.put(Checks.HEDELEG, -1);
                x.put(Checks.HTVAL, 55);
                x.put(Checks.HTINST, 66);
                int hstatus = Checks.GVA | Checks.HU | (m == Checks.VU ? Checks.SPV | Checks.SPVP : 0);
                x.put(Checks.HSTATUS, hstatus);
                x.put(Checks.VSSTATUS, Checks.IE | Checks.MXR | (m == Checks.VU ? Checks.PP : 0));
                String what = "delegated " + exception + " in " + m;
                boolean toVs = exception < 20;
                CHECKS.due(what, x.fail(exception, 77, m == Checks.VS, 8, true), toVs ? Checks.VS : Checks.S);
                if (toVs) {
                    CHECKS.due(what + ", VS EPC", x.get(Checks.VSEPC), 0x40);
                    CHECKS.due(what + ", VS CAUSE", x.get(Checks.VSCAUSE), exception);
                    CHECKS.due(what + ", VS TVAL", x.get(Checks.VSTVAL), 77);
                    CHECKS.due(what + ", VS STATUS", x.get(Checks.VSSTATUS),
                            Checks.PIE | Checks.MXR | (m == Checks.VS ? Checks.PP : 0));
                    CHECKS.due(what + ", HSTATUS", x.get(Checks.HSTATUS), hstatus);
                    CHECKS.due(what + ", HTVAL", x.get(Checks.HTVAL), 55);
                    CHECKS.due(what + ", HTINST", x.get(Checks.HTINST), 66);
                    CHECKS.due(what + ", STATUS", x.get(Checks.SSTATUS), 0);
                    CHECKS.due(what + ", EPC", x.get(Checks.SEPC), 0);
                    CHECKS.due(what + ", the PC", x.count(1), 0x2000);
                    CHECKS.due(what + ", the mode", x.count(0), Checks.VS);
                }
                CHECKS.due(what + ", traps", x.count(2) * 10 + x.count(3), toVs ? 1 : 10);
            }
        }
        TrapDesk x = Checks.in(Checks.VS);
        x.put(Checks.HEDELEG, ~(1 << 13));
        CHECKS.due("all but 13: 13", x.fail(13, 0, false, 0, false), Checks.S);
        x.put(Checks.HEDELEG, 1 << 13);
        x.mode(Checks.VS);
        CHECKS.due("13 alone: 12", x.fail(12, 0, false, 0, false), Checks.S);
        x.mode(Checks.VU);
        CHECKS.due("13 alone: 13", x.fail(13, 0, false, 0, false), Checks.VS);
    }

    private static void notDelegatedOutsideVirtualModes() {
        for (int m : new int[] {Checks.U, Checks.S}) {
            TrapDesk x = Checks.in(m);
            x.put(Checks.HEDELEG, -1);
            CHECKS.due("HEDELEG in " + m, x.fail(13, 77, true, 0, false), Checks.S);
            CHECKS.due("CAUSE in " + m, x.get(Checks.SCAUSE), 13);
        }
    }

    private static void statusOfS() {
        for (int bits = 0; bits < 8; bits++) {
            TrapDesk x = Checks.in(Checks.U);
            boolean ie = (bits & 1) != 0;
            x.put(Checks.SSTATUS, (ie ? Checks.IE : 0) | ((bits & 2) != 0 ? Checks.PIE : 0)
                    | ((bits & 4) != 0 ? Checks.PP : 0) | Checks.SUM);
            x.put(Checks.VSSTATUS, Checks.IE | Checks.PIE);
            x.fail(5, 0, false, 0, false);
            CHECKS.due("STATUS of " + bits, x.get(Checks.SSTATUS), Checks.SUM | (ie ? Checks.PIE : 0));
            CHECKS.due("VS STATUS of " + bits, x.get(Checks.VSSTATUS), Checks.IE | Checks.PIE);
        }
    }

    private static void previousVirtualModeStays() {
        TrapDesk x = Checks.in(Checks.U);
        x.put(Checks.HSTATUS, Checks.SPVP | Checks.SPV);
        x.fail(5, 0, false, 0, false);
        CHECKS.due("SPVP from U", x.get(Checks.HSTATUS), Checks.SPVP);
        x.fail(5, 0, false, 0, false);
        CHECKS.due("SPVP from S", x.get(Checks.HSTATUS), Checks.SPVP);
        x.mode(Checks.VU);
        x.fail(5, 0, false, 0, false);
        CHECKS.due("SPVP from VU", x.get(Checks.HSTATUS), Checks.SPV | Checks.GVA);
    }

    private static void secondStage() {
        long[] seconds = {0, 1, 3, 4, 5, 7, 8, 0xffffffffL, 0x100000000L, 1L << 33, END - 1};
        for (int exception : new int[] {20, 21, 23}) {
            for (long second : seconds) {
                TrapDesk x = Checks.in(Checks.VU);
                x.fail(exception, 0, false, second, false);
                CHECKS.due("HTVAL of " + second, x.get(Checks.HTVAL), (int) (second / 4));
                CHECKS.due("HTINST without an entry", x.get(Checks.HTINST), 0);
            }
        }
    }

    private static void handlersOfExceptions() {
        TrapDesk x = Checks.in(Checks.VU);
        x.put(Checks.STVEC, 0x1001);
        x.put(Checks.VSTVEC, -1);
        x.fail(5, 0, false, 0, false);
        CHECKS.due("bit 0 of TVEC does not count", x.count(1), 0x1000);
        x.put(Checks.HEDELEG, 1 << 5);
        x.mode(Checks.VU);
        x.fail(5, 0, false, 0, false);
        CHECKS.due("bit 0 of VS TVEC does not count", x.count(1), -4);
    }

    private static void switchedOff() {
        TrapDesk x = Checks.in(Checks.S);
        x.set(17, 8);
        x.doWord(Checks.ECALL);
        CHECKS.due("off", x.fail(5, 0, false, 0, false), TrapDesk.OFF);
        CHECKS.due("BAD goes before OFF", x.fail(2, 0, false, 0, false), TrapDesk.BAD);
        CHECKS.due("so for the address", x.fail(5, 0, false, END, false), TrapDesk.BAD);
        CHECKS.due("no trap", x.count(2), 0);
        CHECKS.due("no CAUSE", x.get(Checks.SCAUSE), 0);
        CHECKS.due("the PC", x.count(1), 0x44);
    }
}
