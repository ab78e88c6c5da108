/** The edges of promise 13 and of INTERRUPTS, a sentence at a time. */
public final class EdgesOfInterruptTest {
    private static final Checks CHECKS = new Checks("EdgesOfInterrupt");
    private static final int[] HOST = {9, 1, 5};
    private static final int[] GUEST = {10, 2, 6};
    private static final int HOST_BITS = 0x222, GUEST_BITS = 0x444, INTERRUPT = 0x80000000;

    public static void main(String[] args) {
        noneIsDue();
        waitingButNotOn();
        onButNotWaiting();
        hostOnesInEachMode();
        guestOnesForSInEachMode();
        guestOnesForVsInEachMode();
        theOrderForS();
        theOrderForVs();
        forVsOnlyOtherwise();
        oneLessForVs();
        tvecOfInterrupts();
        whatIsLeftInS();
        whatIsLeftInVs();
        delegationOfExceptionsDoesNotCount();
        theAlarmsEdge();
        off();
        CHECKS.finish();
    }

    /** Interrupts wait (bits as in IP and HVIP) and are on, in the mode, with the PC 0x40; the alarm is at 10. */
    private static TrapDesk waiting(int m, int bits, int on, int hideleg) {
        TrapDesk x = Checks.busy(Checks.S);
        Checks.firmware(x, 0, 10, 0);
        x.time((bits & 1 << 5) != 0 ? 10 : 9);
        x.line((bits & 1 << 9) != 0);
        x.put(Checks.SIP, bits);
        x.put(Checks.HVIP, bits);
        x.put(Checks.SIE, on);
        x.put(Checks.HIE, on);
        x.put(Checks.HIDELEG, hideleg);
        x.put(Checks.SSTATUS, 0);
        x.put(Checks.VSSTATUS, 0);
        x.mode(m);
        x.go(0x40);
        return x;
    }

    private static void noneOf(TrapDesk x, String what) {
        CHECKS.refused(what, x, State.of(x), x.interrupt(), TrapDesk.BAD);
    }

    private static void toS(TrapDesk x, int n, String what) {
        State due = State.of(x).oneInterruptMore().trappedToS(INTERRUPT | n, 0, false);
        CHECKS.due(what, x.interrupt(), n);
        CHECKS.due(what, x, due);
    }

    private static void toVs(TrapDesk x, int n, String what) {
        State due = State.of(x).oneInterruptMore().trappedToVs(INTERRUPT | n, 0);
        CHECKS.due(what, x.interrupt(), 100 + n);
        CHECKS.due(what, x, due);
    }

    private static TrapDesk withStatus(TrapDesk x, int status, int guestStatus) {
        x.put(Checks.SSTATUS, status);
        x.put(Checks.VSSTATUS, guestStatus);
        return x;
    }

    private static void noneIsDue() {
        CHECKS.about("interrupt: else BAD: none is");
        for (int m = 0; m < 4; m++) {
            noneOf(withStatus(waiting(m, 0, -1, 0), -1, -1), "nothing waits in " + m);
            noneOf(withStatus(waiting(m, 0, -1, -1), -1, -1), "nothing waits for VS in " + m);
            noneOf(withStatus(waiting(m, -1, 0, 0), -1, -1), "nothing is on in " + m);
            noneOf(withStatus(waiting(m, -1, 0, -1), -1, -1), "nothing is on for VS in " + m);
        }
        TrapDesk x = new TrapDesk();
        CHECKS.due("a new object", x.interrupt(), TrapDesk.BAD);
        CHECKS.due("still as at first", x, State.atFirst());
    }

    private static void waitingButNotOn() {
        CHECKS.about("For S: IP and IE (bits 9, 1, 5), and HVIP and HIE");
        for (int n : new int[] {9, 1, 5, 10, 2, 6}) {
            noneOf(waiting(Checks.U, 1 << n, ~(1 << n), 0), "waiting but not on: " + n);
        }
    }

    private static void onButNotWaiting() {
        CHECKS.about("For S: IP and IE (bits 9, 1, 5), and HVIP and HIE");
        for (int n : new int[] {9, 1, 5, 10, 2, 6}) {
            noneOf(waiting(Checks.U, HOST_BITS & ~(1 << n), 1 << n, 0), "on but not waiting: " + n);
            noneOf(waiting(Checks.U, GUEST_BITS & ~(1 << n), 1 << n, 0), "on but not waiting: " + n);
        }
    }

    private static void hostOnesInEachMode() {
        CHECKS.about("For S: due in U, VU, VS, and in S with IE of STATUS");
        for (int n : HOST) {
            for (int hideleg : new int[] {0, -1}) {
                for (int guestStatus : new int[] {0, Checks.IE}) {
                    for (int m : new int[] {Checks.U, Checks.VU, Checks.VS}) {
                        toS(withStatus(waiting(m, 1 << n, 1 << n, hideleg), 0, guestStatus), n, n + " in " + m);
                        toS(withStatus(waiting(m, 1 << n, 1 << n, hideleg), Checks.IE, guestStatus), n, n + " in " + m);
                    }
                    toS(withStatus(waiting(Checks.S, 1 << n, 1 << n, hideleg), Checks.IE, guestStatus), n, n + " in S");
                    noneOf(withStatus(waiting(Checks.S, 1 << n, 1 << n, hideleg), ~Checks.IE, guestStatus),
                            n + " in S without IE");
                }
            }
        }
    }

    private static void guestOnesForSInEachMode() {
        CHECKS.about("For S: HVIP and HIE without HIDELEG (10, 2, 6)");
        for (int n : GUEST) {
            int others = ~(1 << n);
            for (int m : new int[] {Checks.U, Checks.VU, Checks.VS}) {
                toS(waiting(m, 1 << n, 1 << n, others), n, n + " in " + m);
            }
            toS(withStatus(waiting(Checks.S, 1 << n, 1 << n, others), Checks.IE, 0), n, n + " in S");
            noneOf(withStatus(waiting(Checks.S, 1 << n, 1 << n, others), ~Checks.IE, -1), n + " in S without IE");
        }
    }

    private static void guestOnesForVsInEachMode() {
        CHECKS.about("Otherwise for VS: due in VU, and in VS with IE of VS STATUS");
        for (int n : GUEST) {
            int it = 1 << n;
            for (int status : new int[] {0, Checks.IE}) {
                toVs(withStatus(waiting(Checks.VU, it, it, it), status, 0), n - 1, n + " in VU without IE");
                toVs(withStatus(waiting(Checks.VU, it, it, it), status, Checks.IE), n - 1, n + " in VU");
                toVs(withStatus(waiting(Checks.VS, it, it, it), status, Checks.IE), n - 1, n + " in VS");
                noneOf(withStatus(waiting(Checks.VS, it, it, it), status, ~Checks.IE), n + " in VS without IE");
                noneOf(withStatus(waiting(Checks.U, it, it, it), status, -1), n + " in U");
                noneOf(withStatus(waiting(Checks.S, it, it, it), status, -1), n + " in S");
            }
        }
    }

    private static void theOrderForS() {
        CHECKS.about("the first in this order: 9, 1, 5, 10, 2, 6");
        int[] order = {9, 1, 5, 10, 2, 6};
        int left = HOST_BITS | GUEST_BITS;
        for (int i = 0; i < order.length; i++) {
            toS(waiting(Checks.U, left, -1, 0), order[i], "the first of " + Integer.toBinaryString(left));
            for (int j = i + 1; j < order.length; j++) {
                toS(waiting(Checks.VS, 1 << order[i] | 1 << order[j], -1, 0), order[i], order[i] + " or " + order[j]);
            }
            left &= ~(1 << order[i]);
        }
    }

    private static void theOrderForVs() {
        CHECKS.about("for VS: the first of 10, 2, 6");
        toVs(waiting(Checks.VU, 1 << 10 | 1 << 2 | 1 << 6, -1, -1), 9, "all");
        toVs(waiting(Checks.VU, 1 << 10 | 1 << 6, -1, -1), 9, "10 or 6");
        toVs(waiting(Checks.VU, 1 << 10 | 1 << 2, -1, -1), 9, "10 or 2");
        toVs(waiting(Checks.VU, 1 << 2 | 1 << 6, -1, -1), 1, "2 or 6");
        toVs(waiting(Checks.VU, 1 << 6, -1, -1), 5, "6");
    }

    private static void forVsOnlyOtherwise() {
        CHECKS.about("Otherwise for VS");
        for (int host : new int[] {9, 1, 5}) {
            toS(waiting(Checks.VU, 1 << host | GUEST_BITS, -1, -1), host, host + " before those of VS");
        }
        toS(waiting(Checks.VU, GUEST_BITS, -1, 1 << 10 | 1 << 2), 6, "6 for S before 10 and 2 for VS");
        toS(withStatus(waiting(Checks.VS, GUEST_BITS, -1, 1 << 10), 0, Checks.IE), 2, "2 for S before 10 for VS");
        noneOf(waiting(Checks.S, HOST_BITS | GUEST_BITS, -1, -1), "in S without IE nothing goes to VS");
    }

    private static void oneLessForVs() {
        CHECKS.about("its number, of one for VS 100 more than it has there; its number for VS is one less");
        int[] due = {109, 101, 105};
        for (int i = 0; i < GUEST.length; i++) {
            TrapDesk x = waiting(Checks.VU, 1 << GUEST[i], -1, -1);
            CHECKS.due("interrupt " + GUEST[i], x.interrupt(), due[i]);
            CHECKS.due("VS CAUSE of " + GUEST[i], x.get(Checks.VSCAUSE), INTERRUPT | due[i] - 100);
        }
    }

    private static void tvecOfInterrupts() {
        CHECKS.about("of an interrupt, if bit 0 of TVEC is set, 4 times its number more");
        for (int tvec : new int[] {0, 1, 0x3000, 0x3001, -4, -3, -1, -40 | 1, 0x7ffffffd, Integer.MIN_VALUE | 1}) {
            boolean more = (tvec & 1) != 0;
            for (int n : new int[] {9, 1, 5, 10, 2, 6}) {
                TrapDesk x = waiting(Checks.VU, 1 << n, -1, 0);
                x.put(Checks.STVEC, tvec);
                x.interrupt();
                CHECKS.due("TVEC " + tvec + " of " + n, x.count(1), (tvec & ~3) + (more ? 4 * n : 0));
            }
            for (int n : GUEST) {
                TrapDesk x = waiting(Checks.VU, 1 << n, -1, -1);
                x.put(Checks.VSTVEC, tvec);
                x.interrupt();
                CHECKS.due("VS TVEC " + tvec + " of " + n, x.count(1), (tvec & ~3) + (more ? 4 * (n - 1) : 0));
            }
        }
    }

    private static void whatIsLeftInS() {
        CHECKS.about("To S: EPC is the PC, CAUSE its number (of an interrupt bit 31, too); TVAL: else 0; GVA else 0");
        for (int m = 0; m < 4; m++) {
            TrapDesk x = withStatus(waiting(m, 1 << 1, -1, 0), Checks.IE | Checks.SUM, Checks.PIE);
            x.put(Checks.HSTATUS, Checks.GVA | Checks.SPV | Checks.SPVP | Checks.HU);
            toS(x, 1, "1 in " + m);
        }
    }

    private static void whatIsLeftInVs() {
        CHECKS.about("To VS: so by VS ones; HSTATUS, HTVAL, HTINST stay");
        for (int m : new int[] {Checks.VU, Checks.VS}) {
            TrapDesk x = withStatus(waiting(m, 1 << 2, -1, -1), Checks.PP, Checks.IE | Checks.MXR);
            x.put(Checks.HSTATUS, Checks.GVA | Checks.SPV | Checks.HU);
            toVs(x, 1, "2 in " + m);
        }
    }

    private static void delegationOfExceptionsDoesNotCount() {
        CHECKS.about("An exception .. whose bit in HEDELEG is set goes to VS (an interrupt is none)");
        for (int n : new int[] {1, 5, 2, 6}) {
            for (int m : new int[] {Checks.VU, Checks.VS}) {
                TrapDesk x = waiting(m, 1 << n, -1, 0);
                x.put(Checks.HEDELEG, -1);
                toS(x, n, n + " in " + m);
            }
        }
    }

    private static void theAlarmsEdge() {
        CHECKS.about("IP bit 5: TIME is not below the ALARM (2^63 - 1 at first)");
        TrapDesk x = Checks.in(Checks.U);
        x.put(Checks.SIE, -1);
        x.time(Long.MAX_VALUE - 1);
        CHECKS.due("below the first alarm", x.interrupt(), TrapDesk.BAD);
        x.time(Long.MAX_VALUE);
        CHECKS.due("at the first alarm", x.interrupt(), 5);
        x.time(0);
        x.mode(Checks.U);
        CHECKS.due("below it again", x.interrupt(), TrapDesk.BAD);
    }

    private static void off() {
        CHECKS.about("interrupt: OFF; else BAD");
        for (int m = 0; m < 4; m++) {
            TrapDesk x = withStatus(Checks.busyAndOff(m), Checks.IE, Checks.IE);
            CHECKS.refused("off, none due", x, State.of(x), x.interrupt(), TrapDesk.OFF);
            x.put(Checks.SIE, -1);
            x.put(Checks.HIE, -1);
            CHECKS.refused("off, one due", x, State.of(x), x.interrupt(), TrapDesk.OFF);
        }
    }
}
