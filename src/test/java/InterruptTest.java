/** Promise 13: interrupt. */
public final class InterruptTest {
    private static final Checks CHECKS = new Checks("Interrupt");
    private static final int[] ORDER = {9, 1, 5, 10, 2, 6};

    public static void main(String[] args) {
        everyMixture();
        whatATrapLeavesInS();
        whatATrapLeavesInVs();
        handlers();
        hostBeforeGuest();
        switchedOff();
        CHECKS.finish();
    }

    private static TrapDesk mixture(int m, int waiting, int on, int hideleg) {
        TrapDesk x = Checks.in(m);
        x.set(17, 0);
        x.line((waiting & 1 << 9) != 0);
        x.put(Checks.SIP, waiting & 2);
        x.mode(Checks.S);
        x.set(10, (waiting & 1 << 5) != 0 ? 10 : 11);
        x.set(11, 0);
        x.doWord(Checks.ECALL);
        x.time(10);
        x.put(Checks.HVIP, waiting);
        x.put(Checks.SIE, on);
        x.put(Checks.HIE, on);
        x.put(Checks.HIDELEG, hideleg);
        x.mode(m);
        x.go(0x40);
        return x;
    }

    private static int dueOf(int m, int both, int hideleg, boolean ie, boolean guestIe) {
        if (m != Checks.S || ie) {
            for (int n : ORDER) {
                boolean guestOne = n == 10 || n == 2 || n == 6;
                if ((both >> n & 1) != 0 && !(guestOne && (hideleg >> n & 1) != 0)) {
                    return n;
                }
            }
        }
        if (m == Checks.VU || m == Checks.VS && guestIe) {
            for (int n : new int[] {10, 2, 6}) {
                if (((both & hideleg) >> n & 1) != 0) {
                    return 100 + n - 1;
                }
            }
        }
        return TrapDesk.BAD;
    }

    private static int spread(int sixBits) {
        int bits = 0;
        for (int i = 0; i < ORDER.length; i++) {
            bits |= (sixBits >> i & 1) << ORDER[i];
        }
        return bits;
    }

    private static void everyMixture() {
        for (int m = 0; m < 4; m++) {
            for (int six = 0; six < 64; six++) {
                for (int three = 0; three < 8; three++) {
                    for (int ies = 0; ies < 4; ies++) {
                        oneMixture(m, spread(six), spread(63), spread(three << 3), ies);
                        oneMixture(m, spread(63), spread(six), spread(three << 3), ies);
                    }
                }
            }
        }
    }

    private static void oneMixture(int m, int waiting, int on, int hideleg, int ies) {
        TrapDesk x = mixture(m, waiting, on, hideleg);
        boolean ie = (ies & 1) != 0, guestIe = (ies & 2) != 0;
        x.put(Checks.SSTATUS, ie ? Checks.IE : 0);
        x.put(Checks.VSSTATUS, guestIe ? Checks.IE : 0);
        int want = dueOf(m, waiting & on, hideleg, ie, guestIe);
        String what = "mode " + m + " waiting " + waiting + " on " + on + " hideleg " + hideleg + " ie " + ies;
        CHECKS.due(what, x.interrupt(), want);
        CHECKS.due(what + ", traps to S", x.count(2), want >= 0 && want < 100 ? 1 : 0);
        CHECKS.due(what + ", traps to VS", x.count(3), want >= 100 ? 1 : 0);
        CHECKS.due(what + ", interrupts", x.count(4), want >= 0 ? 1 : 0);
        CHECKS.due(what + ", the mode", x.count(0), want < 0 ? m : want < 100 ? Checks.S : Checks.VS);
        CHECKS.due(what + ", the PC", x.count(1), want < 0 ? 0x40 : want < 100 ? 0x1000 : 0x2000);
        CHECKS.due(what + ", CAUSE", x.get(Checks.SCAUSE), want >= 0 && want < 100 ? 0x80000000 | want : 0);
        CHECKS.due(what + ", VS CAUSE", x.get(Checks.VSCAUSE), want >= 100 ? 0x80000000 | want - 100 : 0);
    }

    private static void whatATrapLeavesInS() {
        for (int m = 0; m < 4; m++) {
            TrapDesk x = mixture(m, 1 << 9, 1 << 9, 0);
            x.put(Checks.SSTATUS, Checks.IE | Checks.SUM);
            x.put(Checks.HSTATUS, Checks.GVA | Checks.VTSR);
            x.put(Checks.STVAL, 3);
            x.put(Checks.HTVAL, 4);
            x.put(Checks.HTINST, 5);
            x.put(Checks.HEDELEG, -1);
            CHECKS.due("interrupt in " + m, x.interrupt(), 9);
            CHECKS.due("EPC", x.get(Checks.SEPC), 0x40);
            CHECKS.due("TVAL", x.get(Checks.STVAL), 0);
            CHECKS.due("HTVAL", x.get(Checks.HTVAL), 0);
            CHECKS.due("HTINST", x.get(Checks.HTINST), 0);
            CHECKS.due("STATUS", x.get(Checks.SSTATUS),
                    Checks.PIE | Checks.SUM | (m == Checks.S || m == Checks.VS ? Checks.PP : 0));
            CHECKS.due("HSTATUS", x.get(Checks.HSTATUS), Checks.VTSR
                    | (m >= Checks.VU ? Checks.SPV : 0) | (m == Checks.VS ? Checks.SPVP : 0));
            CHECKS.due("it still waits", x.get(Checks.SIP), 1 << 9);
            CHECKS.due("but is not due in S", x.interrupt(), TrapDesk.BAD);
        }
    }

    private static void whatATrapLeavesInVs() {
        for (int m : new int[] {Checks.VU, Checks.VS}) {
            TrapDesk x = mixture(m, 1 << 6, 1 << 6, 1 << 6);
            x.put(Checks.VSSTATUS, Checks.IE | Checks.MXR);
            x.put(Checks.HSTATUS, Checks.GVA | Checks.VTSR);
            x.put(Checks.VSTVAL, 3);
            x.put(Checks.HTVAL, 4);
            x.put(Checks.HTINST, 5);
            CHECKS.due("guest interrupt in " + m, x.interrupt(), 105);
            CHECKS.due("VS EPC", x.get(Checks.VSEPC), 0x40);
            CHECKS.due("VS CAUSE", x.get(Checks.VSCAUSE), 0x80000005);
            CHECKS.due("VS TVAL", x.get(Checks.VSTVAL), 0);
            CHECKS.due("HTVAL stays", x.get(Checks.HTVAL), 4);
            CHECKS.due("HTINST stays", x.get(Checks.HTINST), 5);
            CHECKS.due("VS STATUS", x.get(Checks.VSSTATUS),
                    Checks.PIE | Checks.MXR | (m == Checks.VS ? Checks.PP : 0));
            CHECKS.due("HSTATUS stays", x.get(Checks.HSTATUS), Checks.GVA | Checks.VTSR);
            CHECKS.due("but is not due in VS", x.interrupt(), TrapDesk.BAD);
        }
    }

    private static void handlers() {
        for (int n : ORDER) {
            TrapDesk x = mixture(Checks.VU, 1 << n, 1 << n, 0);
            x.put(Checks.STVEC, 0x3001);
            CHECKS.due("interrupt " + n, x.interrupt(), n);
            CHECKS.due("handler of " + n, x.count(1), 0x3000 + 4 * n);
        }
        for (int n : new int[] {10, 2, 6}) {
            TrapDesk x = mixture(Checks.VU, 1 << n, 1 << n, 0x444);
            x.put(Checks.STVEC, 0x3000);
            x.put(Checks.VSTVEC, 0x5001);
            CHECKS.due("guest interrupt " + n, x.interrupt(), 99 + n);
            CHECKS.due("guest handler of " + n, x.count(1), 0x5000 + 4 * (n - 1));
        }
        TrapDesk x = mixture(Checks.U, 1 << 9, 1 << 9, 0);
        x.put(Checks.STVEC, -1);
        x.interrupt();
        CHECKS.due("a handler beyond the last place", x.count(1), 32);
    }

    private static void hostBeforeGuest() {
        TrapDesk x = mixture(Checks.VS, 1 << 5 | 1 << 10, 1 << 5 | 1 << 10, 0x444);
        x.put(Checks.VSSTATUS, Checks.IE);
        CHECKS.due("that for S first", x.interrupt(), 5);
        x.put(Checks.SIE, 0);
        x.mode(Checks.VS);
        CHECKS.due("then that for VS", x.interrupt(), 109);
    }

    private static void switchedOff() {
        TrapDesk x = mixture(Checks.S, 1 << 9, 1 << 9, 0);
        x.put(Checks.SSTATUS, Checks.IE);
        x.set(17, 8);
        x.doWord(Checks.ECALL);
        CHECKS.due("off", x.interrupt(), TrapDesk.OFF);
        x.mode(Checks.U);
        CHECKS.due("off in U", x.interrupt(), TrapDesk.OFF);
        CHECKS.due("no trap", x.count(2), 0);
        x.line(false);
        CHECKS.due("off when none is due", x.interrupt(), TrapDesk.OFF);
    }
}
