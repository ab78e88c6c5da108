/** The edges of promise 12 and of TRAPS, a sentence at a time. */
public final class EdgesOfFailTest {
    private static final Checks CHECKS = new Checks("EdgesOfFail");
    private static final int[] TOLD = {0, 1, 4, 5, 6, 7, 12, 13, 15, 20, 21, 23};
    private static final int[] NOT_TOLD = {2, 3, 8, 9, 10, 11, 14, 16, 17, 18, 19, 22, 24, 25, 31, 32, 33, 36, 45, 52,
        64, 0x100, 0x105, -1, -2, -27, -32, 0x80000005, Integer.MIN_VALUE, Integer.MAX_VALUE};
    private static final long END = 1L << 34;
    private static final long[] NO_ADDRESS = {-1, -2, -END, Long.MIN_VALUE, Long.MIN_VALUE + 5, END, END + 1, END + 4,
        1L << 35, 1L << 40, Long.MAX_VALUE};
    private static final int ENTRY = 0x2000;

    public static void main(String[] args) {
        anExceptionThatItDoesNotKnow();
        anAddressThatThereIsNot();
        theFirstAndLastAddresses();
        badGoesBeforeOff();
        off();
        theAddressCountsForThreeAlone();
        theEntryCountsForThreeAlone();
        theAddressOfFarAccess();
        noAddressOfUAndS();
        delegatedBitByBit();
        delegationOutsideVirtualModes();
        guestFaultsAreNeverDelegated();
        hypervisorsRegistersStay();
        interruptsOnAndOff();
        previousVirtualMode();
        theHandlersPlace();
        anyValue();
        theLastPc();
        CHECKS.finish();
    }

    private static boolean isOfSecondStage(int exception) {
        return exception == 20 || exception == 21 || exception == 23;
    }

    private static void trapsToS(int exception, int m, boolean far, long second, boolean entry) {
        TrapDesk x = Checks.busy(m);
        State due = State.of(x).trappedToS(exception, 0x77, far || m >= Checks.VU);
        if (isOfSecondStage(exception)) {
            due.control(Checks.HTVAL, (int) (second / 4)).control(Checks.HTINST, entry ? ENTRY : 0);
        }
        String what = "fail(" + exception + ", .., " + far + ", " + second + ", " + entry + ") in " + m;
        CHECKS.due(what, x.fail(exception, 0x77, far, second, entry), Checks.S);
        CHECKS.due(what, x, due);
    }

    private static void anExceptionThatItDoesNotKnow() {
        CHECKS.about("fail: BAD: none of these");
        for (int exception : NOT_TOLD) {
            for (int m = 0; m < 4; m++) {
                TrapDesk x = Checks.busy(m);
                x.put(Checks.HEDELEG, -1);
                CHECKS.refused("fail(" + exception + ")", x, State.of(x), x.fail(exception, 1, false, 0, false),
                        TrapDesk.BAD);
            }
        }
    }

    private static void anAddressThatThereIsNot() {
        CHECKS.about("fail: BAD: no such address (whatever the exception is)");
        for (int exception : TOLD) {
            for (long second : NO_ADDRESS) {
                TrapDesk x = Checks.busy(Checks.VS);
                CHECKS.refused("fail(" + exception + ", " + second + ")", x, State.of(x),
                        x.fail(exception, 1, true, second, true), TrapDesk.BAD);
            }
        }
    }

    private static void theFirstAndLastAddresses() {
        CHECKS.about("fail: an address of the second stage (0 .. 2^34 - 1); by 4 (bits 33 .. 2)");
        long[] seconds = {0, 1, 2, 3, 4, 5, 0x7fffffffL, 0x80000000L, 0xffffffffL, 0x100000000L, 0x1fffffffcL,
            0x200000000L, END / 2 + 3, END - 5, END - 4, END - 3, END - 2, END - 1};
        for (int exception : TOLD) {
            for (long second : seconds) {
                trapsToS(exception, Checks.VU, false, second, false);
            }
        }
        TrapDesk x = Checks.in(Checks.VS);
        x.fail(20, 0, false, END - 1, false);
        CHECKS.due("HTVAL of the last address", x.get(Checks.HTVAL), -1);
        x.fail(20, 0, false, END - 4, false);
        CHECKS.due("HTVAL of the last word", x.get(Checks.HTVAL), -1);
        x.fail(20, 0, false, 3, false);
        CHECKS.due("HTVAL of the first word", x.get(Checks.HTVAL), 0);
    }

    private static void badGoesBeforeOff() {
        CHECKS.about("fail: BAD: ..; else OFF");
        for (int exception : NOT_TOLD) {
            TrapDesk x = Checks.busyAndOff(Checks.S);
            CHECKS.refused("off: fail(" + exception + ")", x, State.of(x), x.fail(exception, 1, false, 0, false),
                    TrapDesk.BAD);
        }
        for (int exception : TOLD) {
            TrapDesk x = Checks.busyAndOff(Checks.U);
            CHECKS.refused("off: an address below", x, State.of(x), x.fail(exception, 1, false, -1, false),
                    TrapDesk.BAD);
            CHECKS.refused("off: an address above", x, State.of(x), x.fail(exception, 1, false, END, false),
                    TrapDesk.BAD);
        }
    }

    private static void off() {
        CHECKS.about("fail: else OFF");
        for (int exception : TOLD) {
            for (int m = 0; m < 4; m++) {
                TrapDesk x = Checks.busyAndOff(m);
                x.put(Checks.HEDELEG, 1 << 5);
                CHECKS.refused("off: fail(" + exception + ")", x, State.of(x),
                        x.fail(exception, 1, true, END - 1, true), TrapDesk.OFF);
            }
        }
    }

    private static void theAddressCountsForThreeAlone() {
        CHECKS.about("HTVAL is the address of the second stage by 4 for 20, 21, 23, else 0");
        for (int exception : TOLD) {
            for (int m = 0; m < 4; m++) {
                trapsToS(exception, m, false, 0x1234567cL, false);
            }
        }
    }

    private static void theEntryCountsForThreeAlone() {
        CHECKS.about("HTINST is 0x2000, if that was an ENTRY's place, else 0");
        for (int exception : TOLD) {
            for (int m = 0; m < 4; m++) {
                trapsToS(exception, m, false, 0, true);
                trapsToS(exception, m, true, END - 1, true);
            }
        }
    }

    private static void theAddressOfFarAccess() {
        CHECKS.about("of an access by f 4 or not (if so, TVAL is an address of VU or VS): GVA 1");
        for (int exception : TOLD) {
            for (int m = 0; m < 4; m++) {
                trapsToS(exception, m, true, 0, false);
            }
        }
    }

    private static void noAddressOfUAndS() {
        CHECKS.about("GVA 1, if TVAL is an address of VU or VS, else 0");
        for (int exception : TOLD) {
            for (int m = 0; m < 4; m++) {
                TrapDesk x = Checks.in(m);
                x.put(Checks.HSTATUS, Checks.GVA);
                x.fail(exception, 0, false, 0, false);
                CHECKS.due("GVA of " + exception + " from " + m, x.get(Checks.HSTATUS) & Checks.GVA,
                        m >= Checks.VU ? Checks.GVA : 0);
            }
        }
    }

    private static void delegatedBitByBit() {
        CHECKS.about("An exception in VU or VS whose bit in HEDELEG is set goes to VS, all others to S");
        for (int exception : TOLD) {
            for (int bit = 0; bit < 32; bit++) {
                for (int m : new int[] {Checks.VU, Checks.VS}) {
                    TrapDesk x = Checks.in(m);
                    x.put(Checks.HEDELEG, 1 << bit);
                    boolean toVs = bit == exception && exception < 16;
                    CHECKS.due("fail(" + exception + ") in " + m + " with bit " + bit,
                            x.fail(exception, 1, false, 0, false), toVs ? Checks.VS : Checks.S);
                }
            }
        }
    }

    private static void delegationOutsideVirtualModes() {
        CHECKS.about("An exception in VU or VS whose bit in HEDELEG is set goes to VS, all others to S (U, S)");
        for (int exception : TOLD) {
            for (int m : new int[] {Checks.U, Checks.S}) {
                TrapDesk x = Checks.busy(m);
                x.put(Checks.HEDELEG, -1);
                State due = State.of(x).trappedToS(exception, 9, true);
                CHECKS.due("fail(" + exception + ") in " + m, x.fail(exception, 9, true, 0, false), Checks.S);
                CHECKS.due("fail(" + exception + ") in " + m, x, due);
            }
        }
    }

    private static void guestFaultsAreNeverDelegated() {
        CHECKS.about("HEDELEG bits 0 to 8, 12, 13, 15: 20, 21 and 23 always go to S");
        for (int exception : new int[] {20, 21, 23}) {
            for (int m : new int[] {Checks.VU, Checks.VS}) {
                TrapDesk x = Checks.busy(m);
                x.put(Checks.HEDELEG, -1);
                State due = State.of(x).trappedToS(exception, 9, true);
                due.control(Checks.HTVAL, 2).control(Checks.HTINST, ENTRY);
                CHECKS.due("fail(" + exception + ") in " + m, x.fail(exception, 9, false, 8, true), Checks.S);
                CHECKS.due("fail(" + exception + ") in " + m, x, due);
            }
        }
    }

    private static void hypervisorsRegistersStay() {
        CHECKS.about("To VS: so by VS ones; HSTATUS, HTVAL, HTINST stay. The mode is VS");
        for (int exception : TOLD) {
            for (int m : new int[] {Checks.VU, Checks.VS}) {
                for (int hstatus : new int[] {0, -1}) {
                    TrapDesk x = Checks.busy(m);
                    x.put(Checks.HEDELEG, -1);
                    x.put(Checks.HSTATUS, hstatus);
                    if (exception < 16) {
                        State due = State.of(x).trappedToVs(exception, -9);
                        CHECKS.due("fail(" + exception + ")", x.fail(exception, -9, true, 8, true), Checks.VS);
                        CHECKS.due("fail(" + exception + ") in " + m, x, due);
                    }
                }
            }
        }
    }

    private static void interruptsOnAndOff() {
        CHECKS.about("PIE becomes IE, IE 0; PP 1 if it came from S or VS, else 0");
        int[] statuses = {0, Checks.IE, Checks.PIE, Checks.PP, Checks.IE | Checks.PIE, Checks.IE | Checks.PP,
            Checks.PIE | Checks.PP | Checks.SUM, Checks.IE | Checks.PIE | Checks.PP | Checks.MXR};
        for (int status : statuses) {
            for (int m = 0; m < 4; m++) {
                for (int hedeleg : new int[] {0, -1}) {
                    TrapDesk x = Checks.busy(m);
                    x.put(Checks.SSTATUS, status);
                    x.put(Checks.VSSTATUS, status ^ Checks.IE);
                    x.put(Checks.HEDELEG, hedeleg);
                    boolean toVs = m >= Checks.VU && hedeleg != 0;
                    State due = State.of(x);
                    due = toVs ? due.trappedToVs(7, 5) : due.trappedToS(7, 5, m >= Checks.VU);
                    x.fail(7, 5, false, 0, false);
                    CHECKS.due("STATUS " + status + " in " + m, x, due);
                }
            }
        }
    }

    private static void previousVirtualMode() {
        CHECKS.about("SPV 1 if from VU or VS, else 0, and if so SPVP is 1 for VS, else 0");
        for (int hstatus : new int[] {0, Checks.SPV, Checks.SPVP, Checks.SPV | Checks.SPVP}) {
            int[] due = {hstatus & Checks.SPVP, hstatus & Checks.SPVP, Checks.SPV | Checks.GVA,
                Checks.SPV | Checks.SPVP | Checks.GVA};
            for (int m = 0; m < 4; m++) {
                TrapDesk x = Checks.in(m);
                x.put(Checks.HSTATUS, hstatus);
                x.fail(12, 0, false, 0, false);
                CHECKS.due("HSTATUS " + hstatus + " from " + m, x.get(Checks.HSTATUS), due[m]);
            }
        }
    }

    private static void theHandlersPlace() {
        CHECKS.about("the PC TVEC without its lowest two bits; of an interrupt alone more");
        for (int tvec : new int[] {0, 1, 2, 3, 4, 5, -1, -4, Integer.MAX_VALUE, Integer.MIN_VALUE}) {
            for (int exception : TOLD) {
                TrapDesk x = Checks.in(Checks.VS);
                x.put(Checks.STVEC, tvec);
                x.fail(exception, 0, false, 0, false);
                CHECKS.due("handler in S of " + tvec, x.count(1), tvec & ~3);
                TrapDesk y = Checks.in(Checks.VS);
                y.put(Checks.VSTVEC, tvec);
                y.put(Checks.HEDELEG, -1);
                int mode = y.fail(exception, 0, false, 0, false);
                CHECKS.due("handler in VS of " + tvec, y.count(1), mode == Checks.VS ? tvec & ~3 : 0x1000);
            }
        }
    }

    private static void anyValue() {
        CHECKS.about("TVAL: of those that are told by fail() what is told there");
        for (int exception : TOLD) {
            for (int value : new int[] {0, 1, 2, 3, -1, Integer.MIN_VALUE, Integer.MAX_VALUE}) {
                TrapDesk x = Checks.in(Checks.VU);
                x.fail(exception, value, false, 0, false);
                CHECKS.due("TVAL of " + exception, x.get(Checks.STVAL), value);
                TrapDesk y = Checks.in(Checks.VU);
                y.put(Checks.HEDELEG, -1);
                y.fail(exception, value, false, 0, false);
                CHECKS.due("TVAL or VS TVAL of " + exception,
                        y.get(exception < 16 ? Checks.VSTVAL : Checks.STVAL), value);
            }
        }
    }

    private static void theLastPc() {
        CHECKS.about("EPC is the PC");
        for (int pc : new int[] {0, 4, -4, 0x7ffffffc, Integer.MIN_VALUE}) {
            TrapDesk x = Checks.in(Checks.VU);
            x.go(pc);
            x.fail(13, 0, false, 0, false);
            CHECKS.due("EPC", x.get(Checks.SEPC), pc);
            x.put(Checks.HEDELEG, -1);
            x.mode(Checks.VU);
            x.go(pc);
            x.fail(13, 0, false, 0, false);
            CHECKS.due("VS EPC", x.get(Checks.VSEPC), pc);
        }
    }
}
