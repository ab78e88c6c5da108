/** The edges of promises 5 and 6 and of the table on what a write keeps and what IP, HIP, VS IP and VS IE tell. */
public final class EdgesOfControlsTest {
    private static final Checks CHECKS = new Checks("EdgesOfControls");
    private static final int[] OTHERS_ALL = {0x140, 0x142, 0x143, 0x240, 0x242, 0x243, 0x643, 0x64a};
    private static final int[] VALUES = {0, 1, 2, 3, 4, -1, -2, -3, -4, Integer.MIN_VALUE, Integer.MAX_VALUE,
        0x55555555, 0xaaaaaaaa, 0x00400000, 0x00200000, 0x7fc00000};

    public static void main(String[] args) {
        putOfNumbersThatAreNone();
        putOfTheTimes();
        getOfNumbersThatAreNone();
        getOfTheTimes();
        putIsAsInS();
        statusKeepsTheBitsNamed();
        hstatusKeepsTheBitsNamed();
        tvecKeepsAllButBit1();
        epcKeepsAllButBits0And1();
        atpKeepsBits31And21To0();
        hgatpKeepsBits31And21To2();
        hedelegKeepsItsBits();
        hidelegHieHvipKeepThreeBits();
        othersKeepAll();
        ieKeepsThreeBits();
        ipKeepsBit1AndElseIsAsItWas();
        ipTellsTheAlarm();
        hipKeepsBit2AndElseIsAsItWas();
        guestIpTells();
        guestIpWritten();
        guestIeTells();
        guestIeWritten();
        CHECKS.finish();
    }

    private static void keeps(int number, int mask) {
        for (int v : VALUES) {
            keepsOf(number, mask, v);
        }
        for (int bit = 0; bit < 32; bit++) {
            keepsOf(number, mask, 1 << bit);
            keepsOf(number, mask, ~(1 << bit));
        }
    }

    private static void keepsOf(int number, int mask, int v) {
        TrapDesk x = Checks.busy(Checks.S);
        State due = State.of(x).control(number, v & mask);
        CHECKS.due("put", x.put(number, v), 0);
        CHECKS.due("put(" + number + ", " + v + ")", x, due);
    }

    private static void putOfNumbersThatAreNone() {
        CHECKS.about("put: BAD: there is none; numbers of 12 bits");
        int[] wrong = {0, 1, 0xff, 0x101, 0x102, 0x103, 0x106, 0x13f, 0x145, 0x17f, 0x181, 0x1ff, 0x201, 0x203, 0x206,
            0x23f, 0x245, 0x281, 0x300, 0x304, 0x340, 0x500, 0x5ff, 0x601, 0x605, 0x606, 0x607, 0x642, 0x646, 0x649,
            0x64b, 0x67f, 0x681, 0x700, 0xc00, 0xc02, 0xc80, 0xc82, 0xe12, 0xfff, 0x1000, 0x1100, 0x1600, 0x10100,
            0x80000100, -1, -0x100, 0xfffff100, 0xfffffc01, Integer.MIN_VALUE, Integer.MAX_VALUE};
        for (int number : wrong) {
            TrapDesk x = Checks.busy(Checks.S);
            CHECKS.refused("put(" + number + ")", x, State.of(x), x.put(number, -1), TrapDesk.BAD);
            CHECKS.due("get(" + number + ") behind it", x.get(number), 0);
        }
    }

    private static void putOfTheTimes() {
        CHECKS.about("put: BAD: .. or it is one of the TIMEs");
        for (int m = 0; m < 4; m++) {
            for (int number : new int[] {Checks.TIME, Checks.TIMEH}) {
                TrapDesk x = Checks.busy(m);
                CHECKS.refused("put(" + number + ", 0)", x, State.of(x), x.put(number, 0), TrapDesk.BAD);
                CHECKS.refused("put(" + number + ", -1)", x, State.of(x), x.put(number, -1), TrapDesk.BAD);
            }
        }
    }

    private static void getOfNumbersThatAreNone() {
        CHECKS.about("get: 0, if there is none");
        TrapDesk x = Checks.busy(Checks.S);
        int calls = 0;
        for (int number = -4096; number < 3 * 4096; number++) {
            if (!Checks.isKnown(number)) {
                if (calls++ == 400) {
                    x = Checks.busy(Checks.S);
                    calls = 0;
                }
                CHECKS.due("get(" + number + ")", x.get(number), 0);
            }
        }
        TrapDesk y = Checks.busy(Checks.VS);
        State before = State.of(y);
        for (int number : Checks.ALL_KNOWN) {
            CHECKS.due("get beyond 12 bits", y.get(number | 0x1000), 0);
            CHECKS.due("get of a negative number", y.get(number | 0x80000000), 0);
        }
        CHECKS.due("nothing changed", y, before);
    }

    private static void getOfTheTimes() {
        CHECKS.about("0xc01 TIME, its lower 32 bits, 0xc81 the upper ones");
        for (int m = 0; m < 4; m++) {
            TrapDesk x = Checks.busy(m);
            x.time(0x7fffffff80000001L);
            CHECKS.refused("get(TIME)", x, State.of(x), x.get(Checks.TIME), 0x80000001);
            CHECKS.refused("get(upper TIME)", x, State.of(x), x.get(Checks.TIMEH), 0x7fffffff);
        }
    }

    private static void putIsAsInS() {
        CHECKS.about("put: A control register is written as in S (an S number: the S one): 0");
        for (int m = 0; m < 4; m++) {
            for (int number : new int[] {0x140, 0x180, 0x240, 0x280, 0x643}) {
                TrapDesk x = Checks.busy(m);
                x.put(Checks.HSTATUS, Checks.VTVM);
                State due = State.of(x).control(number, 0x14);
                CHECKS.due("put(" + number + ") in " + m, x.put(number, 0x14), 0);
                CHECKS.due("behind put(" + number + ") in " + m, x, due);
                CHECKS.due("get(" + number + ") in " + m, x.get(number), 0x14);
            }
        }
    }

    private static void statusKeepsTheBitsNamed() {
        CHECKS.about("What a write keeps: STATUS the bits named; what is not kept is 0");
        keeps(Checks.SSTATUS, 0x000c0122);
        keeps(Checks.VSSTATUS, 0x000c0122);
    }

    private static void hstatusKeepsTheBitsNamed() {
        CHECKS.about("What a write keeps: HSTATUS the bits named; what is not kept is 0");
        keeps(Checks.HSTATUS, 0x007003c0);
    }

    private static void tvecKeepsAllButBit1() {
        CHECKS.about("What a write keeps: TVEC all but bit 1");
        keeps(Checks.STVEC, 0xfffffffd);
        keeps(Checks.VSTVEC, 0xfffffffd);
    }

    private static void epcKeepsAllButBits0And1() {
        CHECKS.about("What a write keeps: EPC all but bits 0, 1");
        keeps(Checks.SEPC, 0xfffffffc);
        keeps(Checks.VSEPC, 0xfffffffc);
    }

    private static void atpKeepsBits31And21To0() {
        CHECKS.about("What a write keeps: ATP bits 31 and 21 .. 0");
        keeps(Checks.SATP, 0x803fffff);
        keeps(Checks.VSATP, 0x803fffff);
    }

    private static void hgatpKeepsBits31And21To2() {
        CHECKS.about("What a write keeps: HGATP 31 and 21 .. 2");
        keeps(Checks.HGATP, 0x803ffffc);
    }

    private static void hedelegKeepsItsBits() {
        CHECKS.about("What a write keeps: HEDELEG bits 0 to 8, 12, 13, 15");
        keeps(Checks.HEDELEG, 0x0000b1ff);
    }

    private static void othersKeepAll() {
        CHECKS.about("What a write keeps: others all");
        for (int number : OTHERS_ALL) {
            keeps(number, -1);
        }
    }

    private static void ieKeepsThreeBits() {
        CHECKS.about("What a write keeps: S IE bits 1, 5, 9");
        keeps(Checks.SIE, 0x222);
    }

    /** HVIP and what tells it change together, so these three are looked at with what else tells them. */
    private static void hidelegHieHvipKeepThreeBits() {
        CHECKS.about("What a write keeps: HIDELEG, HIE, HVIP bits 2, 6, 10; HIP tells HVIP");
        for (int bit = 0; bit < 32; bit++) {
            for (int v : new int[] {1 << bit, ~(1 << bit)}) {
                TrapDesk x = Checks.busy(Checks.S);
                x.put(Checks.HIDELEG, 0);
                CHECKS.due("put", x.put(Checks.HIE, v), 0);
                CHECKS.due("HIE of " + v, x.get(Checks.HIE), v & 0x444);
                CHECKS.due("put", x.put(Checks.HVIP, v), 0);
                CHECKS.due("HVIP of " + v, x.get(Checks.HVIP), v & 0x444);
                CHECKS.due("HIP of " + v, x.get(Checks.HIP), v & 0x444);
                State due = State.of(x).control(Checks.HIDELEG, v & 0x444);
                due.control(Checks.VSIE, (v & 0x444) >> 1).control(Checks.VSIP, (v & 0x444) >> 1);
                CHECKS.due("put", x.put(Checks.HIDELEG, v), 0);
                CHECKS.due("HIDELEG of " + v, x, due);
            }
        }
    }

    private static void ipKeepsBit1AndElseIsAsItWas() {
        CHECKS.about("What a write keeps: S IP bit 1; what is not kept is as it was");
        for (boolean line : new boolean[] {false, true}) {
            for (long t : new long[] {0x300000005L, 0x300000006L}) {
                for (int v : VALUES) {
                    TrapDesk x = Checks.busy(Checks.S);
                    x.line(line);
                    x.time(t);
                    int outside = (line ? 1 << 9 : 0) | (t == 0x300000006L ? 1 << 5 : 0);
                    State due = State.of(x).control(Checks.SIP, outside | v & 2);
                    CHECKS.due("put", x.put(Checks.SIP, v), 0);
                    CHECKS.due("IP of " + v, x, due);
                }
            }
        }
    }

    private static void ipTellsTheAlarm() {
        CHECKS.about("S IP tells bit 5: TIME is not below the ALARM (both of 64 bits)");
        long[][] pairs = {{0, 0}, {0, 1}, {1, 0}, {0x80000000L, 0x7fffffff}, {0x7fffffff, 0x80000000L},
            {0xffffffffL, 0x100000000L}, {0x100000000L, 0xffffffffL}, {0x100000000L, 0x100000000L},
            {0x1ffffffffL, 0x200000000L}, {0x200000000L, 0x1ffffffffL}, {Long.MAX_VALUE - 1, Long.MAX_VALUE},
            {Long.MAX_VALUE, Long.MAX_VALUE - 1}, {Long.MAX_VALUE, Long.MAX_VALUE}, {0, Long.MAX_VALUE}};
        for (long[] pair : pairs) {
            TrapDesk x = new TrapDesk();
            Checks.firmware(x, 0, (int) pair[1], (int) (pair[1] >> 32));
            x.time(pair[0]);
            CHECKS.due("TIME " + pair[0] + " ALARM " + pair[1], x.get(Checks.SIP), pair[0] >= pair[1] ? 32 : 0);
        }
    }

    private static void hipKeepsBit2AndElseIsAsItWas() {
        CHECKS.about("HIP bit 2, which is that of HVIP; what is not kept is as it was");
        for (int hvip = 0; hvip < 8; hvip++) {
            int before = spread(hvip);
            for (int v : VALUES) {
                TrapDesk x = Checks.busy(Checks.S);
                x.put(Checks.HIDELEG, 0);
                x.put(Checks.HVIP, before);
                int after = before & 0x440 | v & 4;
                State due = State.of(x).control(Checks.HIP, after).control(Checks.HVIP, after);
                CHECKS.due("put", x.put(Checks.HIP, v), 0);
                CHECKS.due("HIP of " + v, x, due);
            }
        }
    }

    private static int spread(int threeBits) {
        return (threeBits & 1) << 2 | (threeBits & 2) << 5 | (threeBits & 4) << 8;
    }

    private static void guestIpTells() {
        CHECKS.about("VS IP tells bits 2, 6, 10 of HVIP and HIDELEG, one place lower");
        for (int hvip = 0; hvip < 8; hvip++) {
            for (int hideleg = 0; hideleg < 8; hideleg++) {
                TrapDesk x = Checks.busy(Checks.S);
                x.put(Checks.HVIP, spread(hvip));
                x.put(Checks.HIDELEG, spread(hideleg));
                CHECKS.due("VS IP", x.get(Checks.VSIP), spread(hvip & hideleg) / 2);
            }
        }
    }

    private static void guestIpWritten() {
        CHECKS.about("a write of VS IP puts bit 1 to bit 2 of HVIP, if that is in HIDELEG");
        for (int hvip = 0; hvip < 8; hvip++) {
            for (int hideleg = 0; hideleg < 8; hideleg++) {
                for (int v : VALUES) {
                    TrapDesk x = Checks.busy(Checks.S);
                    x.put(Checks.HVIP, spread(hvip));
                    x.put(Checks.HIDELEG, spread(hideleg));
                    boolean open = (hideleg & 1) != 0;
                    int after = spread(open ? hvip & 6 | (v & 2) / 2 : hvip);
                    State due = State.of(x).control(Checks.HVIP, after).control(Checks.HIP, after);
                    due.control(Checks.VSIP, (after & spread(hideleg)) / 2);
                    CHECKS.due("put", x.put(Checks.VSIP, v), 0);
                    CHECKS.due("VS IP of " + v, x, due);
                }
            }
        }
    }

    private static void guestIeTells() {
        CHECKS.about("VS IE tells HIE and HIDELEG one place lower");
        for (int hie = 0; hie < 8; hie++) {
            for (int hideleg = 0; hideleg < 8; hideleg++) {
                TrapDesk x = Checks.busy(Checks.S);
                x.put(Checks.HIE, spread(hie));
                x.put(Checks.HIDELEG, spread(hideleg));
                CHECKS.due("VS IE", x.get(Checks.VSIE), spread(hie & hideleg) / 2);
            }
        }
    }

    private static void guestIeWritten() {
        CHECKS.about("a write of VS IE puts bits 1, 5, 9 one place higher to HIE, those that are in HIDELEG");
        int[] values = {0, 2, 0x20, 0x200, 0x222, 0x444, -1, ~0x222, 1, 0x110, 0x80000000, 0x7fffffff};
        for (int hie = 0; hie < 8; hie++) {
            for (int hideleg = 0; hideleg < 8; hideleg++) {
                for (int v : values) {
                    TrapDesk x = Checks.busy(Checks.S);
                    x.put(Checks.HIE, spread(hie));
                    x.put(Checks.HIDELEG, spread(hideleg));
                    int open = spread(hideleg);
                    int after = spread(hie) & ~open | (v & 0x222) * 2 & open;
                    State due = State.of(x).control(Checks.HIE, after).control(Checks.VSIE, (after & open) / 2);
                    CHECKS.due("put", x.put(Checks.VSIE, v), 0);
                    CHECKS.due("VS IE of " + v, x, due);
                }
            }
        }
    }
}
