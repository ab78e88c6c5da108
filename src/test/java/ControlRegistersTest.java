/** Promises 5 and 6: put and get, and what each control register keeps and tells. */
public final class ControlRegistersTest {
    private static final Checks CHECKS = new Checks("ControlRegisters");
    private static final int BITS_OF_STATUS = 1 << 1 | 1 << 5 | 1 << 8 | 1 << 18 | 1 << 19;
    private static final int BITS_OF_HSTATUS = 15 << 6 | 7 << 20;

    public static void main(String[] args) {
        numbers();
        kept();
        registersAreApart();
        hostIp();
        hypervisorsIp();
        guestIp();
        guestIe();
        modeDoesNotMatter();
        CHECKS.finish();
    }

    private static void numbers() {
        for (int number = -5000; number < 10000; number++) {
            TrapDesk x = new TrapDesk();
            boolean time = number == Checks.TIME || number == Checks.TIMEH;
            boolean writable = Checks.isKnown(number) && !time;
            CHECKS.due("put(" + number + ")", x.put(number, 0), writable ? 0 : TrapDesk.BAD);
            if (!Checks.isKnown(number)) {
                x.put(number, -1);
                CHECKS.due("get(" + number + ")", x.get(number), 0);
            }
        }
        TrapDesk x = new TrapDesk();
        for (int number : Checks.ALL_KNOWN) {
            CHECKS.due("put beyond 12 bits", x.put(number + 0x1000, 1), TrapDesk.BAD);
            CHECKS.due("put with the top bit", x.put(number | 0x80000000, 1), TrapDesk.BAD);
            CHECKS.due("get beyond 12 bits", x.get(number + 0x10000), 0);
        }
        x.time(0x500000007L);
        CHECKS.due("put(TIME)", x.put(Checks.TIME, 1), TrapDesk.BAD);
        CHECKS.due("put(upper TIME)", x.put(Checks.TIMEH, 1), TrapDesk.BAD);
        CHECKS.due("TIME stays", x.get(Checks.TIME), 7);
        CHECKS.due("upper TIME stays", x.get(Checks.TIMEH), 5);
    }

    private static void kept() {
        for (int base = 0x100; base <= 0x200; base += 0x100) {
            keeps(base, BITS_OF_STATUS);
            keeps(base + 0x05, ~2);
            keeps(base + 0x40, -1);
            keeps(base + 0x41, ~3);
            keeps(base + 0x42, -1);
            keeps(base + 0x43, -1);
            keeps(base + 0x80, 0x80000000 | (1 << 22) - 1);
        }
        keeps(Checks.SIE, 1 << 1 | 1 << 5 | 1 << 9);
        keeps(Checks.SIP, 1 << 1);
        keeps(Checks.VSIE, 0);
        keeps(Checks.VSIP, 0);
        keeps(Checks.HSTATUS, BITS_OF_HSTATUS);
        keeps(Checks.HEDELEG, 0x1ff | 1 << 12 | 1 << 13 | 1 << 15);
        keeps(Checks.HIDELEG, 1 << 2 | 1 << 6 | 1 << 10);
        keeps(Checks.HIE, 1 << 2 | 1 << 6 | 1 << 10);
        keeps(Checks.HVIP, 1 << 2 | 1 << 6 | 1 << 10);
        keeps(Checks.HIP, 1 << 2);
        keeps(Checks.HTVAL, -1);
        keeps(Checks.HTINST, -1);
        keeps(Checks.HGATP, 0x80000000 | (1 << 22) - 4);
    }

    private static void keeps(int number, int mask) {
        TrapDesk x = new TrapDesk();
        for (int bit = 0; bit < 32; bit++) {
            x.put(number, 1 << bit);
            CHECKS.due("register " + number + ", bit " + bit, x.get(number), 1 << bit & mask);
        }
        x.put(number, -1);
        CHECKS.due("register " + number + ", all bits", x.get(number), mask);
        x.put(number, 0);
        CHECKS.due("register " + number + ", none", x.get(number), 0);
    }

    private static void registersAreApart() {
        int[] plain = {0x105, 0x140, 0x141, 0x142, 0x143, 0x180, 0x205, 0x240, 0x241, 0x242, 0x243, 0x280,
            0x643, 0x64a, 0x680};
        TrapDesk x = new TrapDesk();
        for (int i = 0; i < plain.length; i++) {
            x.put(plain[i], 4 * (i + 1));
        }
        x.put(Checks.SSTATUS, Checks.IE);
        x.put(Checks.VSSTATUS, Checks.PIE);
        x.put(Checks.HSTATUS, Checks.HU);
        x.put(Checks.HEDELEG, 1);
        for (int i = 0; i < plain.length; i++) {
            CHECKS.due("register " + plain[i] + " among others", x.get(plain[i]), 4 * (i + 1));
        }
        CHECKS.due("STATUS among others", x.get(Checks.SSTATUS), Checks.IE);
        CHECKS.due("VS STATUS among others", x.get(Checks.VSSTATUS), Checks.PIE);
        CHECKS.due("HSTATUS among others", x.get(Checks.HSTATUS), Checks.HU);
        CHECKS.due("HEDELEG among others", x.get(Checks.HEDELEG), 1);
    }

    private static void hostIp() {
        TrapDesk x = new TrapDesk();
        x.line(true);
        x.put(Checks.SIP, 0);
        CHECKS.due("a write leaves the line", x.get(Checks.SIP), 1 << 9);
        x.put(Checks.SIP, -1);
        CHECKS.due("bit 1 and the line", x.get(Checks.SIP), 1 << 9 | 1 << 1);
        x.set(17, 0);
        x.set(10, 10);
        x.set(11, 1);
        x.doWord(Checks.ECALL);
        x.time(0x100000009L);
        CHECKS.due("below the alarm", x.get(Checks.SIP), 1 << 9 | 1 << 1);
        x.time(0x10000000aL);
        CHECKS.due("at the alarm", x.get(Checks.SIP), 1 << 9 | 1 << 5 | 1 << 1);
        x.time(0x20000000aL);
        CHECKS.due("behind the alarm", x.get(Checks.SIP), 1 << 9 | 1 << 5 | 1 << 1);
        x.put(Checks.HVIP, -1);
        x.put(Checks.HIDELEG, -1);
        CHECKS.due("HVIP is not in it", x.get(Checks.SIP), 1 << 9 | 1 << 5 | 1 << 1);
        x.line(false);
        x.time(0);
        x.put(Checks.SIP, 0);
        CHECKS.due("none", x.get(Checks.SIP), 0);
    }

    private static void hypervisorsIp() {
        TrapDesk x = new TrapDesk();
        x.put(Checks.HVIP, 0x440);
        CHECKS.due("HIP tells HVIP", x.get(Checks.HIP), 0x440);
        x.put(Checks.HIP, 4);
        CHECKS.due("HIP sets bit 2 of HVIP", x.get(Checks.HVIP), 0x444);
        x.put(Checks.HIP, 0x440);
        CHECKS.due("HIP clears bit 2 alone", x.get(Checks.HVIP), 0x440);
        x.put(Checks.HIP, 0);
        CHECKS.due("HIP leaves 6 and 10", x.get(Checks.HIP), 0x440);
    }

    private static void guestIp() {
        TrapDesk x = new TrapDesk();
        x.put(Checks.HVIP, 0x444);
        CHECKS.due("VS IP without HIDELEG", x.get(Checks.VSIP), 0);
        x.put(Checks.HIDELEG, 0x404);
        CHECKS.due("VS IP by HIDELEG", x.get(Checks.VSIP), 0x202);
        x.put(Checks.VSIP, 0);
        CHECKS.due("VS IP clears bit 2 of HVIP", x.get(Checks.HVIP), 0x440);
        x.put(Checks.VSIP, 0x2);
        CHECKS.due("VS IP sets bit 2 of HVIP", x.get(Checks.HVIP), 0x444);
        x.put(Checks.HVIP, 0);
        x.put(Checks.VSIP, -1);
        CHECKS.due("VS IP sets no other bit", x.get(Checks.HVIP), 0x4);
        x.put(Checks.HIDELEG, 0x440);
        x.put(Checks.VSIP, 0);
        CHECKS.due("VS IP without bit 2 in HIDELEG", x.get(Checks.HVIP), 0x4);
        CHECKS.due("and does not tell it", x.get(Checks.VSIP), 0);
        CHECKS.due("S IP stays", x.get(Checks.SIP), 0);
    }

    private static void guestIe() {
        TrapDesk x = new TrapDesk();
        x.put(Checks.HIE, 0x444);
        CHECKS.due("VS IE without HIDELEG", x.get(Checks.VSIE), 0);
        x.put(Checks.HIDELEG, 0x440);
        CHECKS.due("VS IE by HIDELEG", x.get(Checks.VSIE), 0x220);
        x.put(Checks.VSIE, 0x20);
        CHECKS.due("VS IE writes HIE", x.get(Checks.HIE), 0x44);
        x.put(Checks.VSIE, 0);
        CHECKS.due("VS IE leaves what is not in HIDELEG", x.get(Checks.HIE), 0x4);
        x.put(Checks.HIE, 0);
        x.put(Checks.VSIE, -1);
        CHECKS.due("VS IE sets what is in HIDELEG", x.get(Checks.HIE), 0x440);
        CHECKS.due("S IE stays", x.get(Checks.SIE), 0);
        x.put(Checks.SIE, 0x222);
        CHECKS.due("HIE stays", x.get(Checks.HIE), 0x440);
    }

    private static void modeDoesNotMatter() {
        for (int m = 0; m < 4; m++) {
            TrapDesk x = Checks.in(m);
            x.put(Checks.HSTATUS, Checks.VTVM);
            CHECKS.due("put in mode " + m, x.put(Checks.SATP, 12), 0);
            CHECKS.due("S ATP in mode " + m, x.get(Checks.SATP), 12);
            CHECKS.due("VS ATP in mode " + m, x.get(Checks.VSATP), 0);
            CHECKS.due("put of H in mode " + m, x.put(Checks.HTVAL, 3), 0);
            CHECKS.due("get of H in mode " + m, x.get(Checks.HTVAL), 3);
            CHECKS.due("no trap in mode " + m, x.count(2) + x.count(3), 0);
            CHECKS.due("the PC in mode " + m, x.count(1), 0x40);
        }
    }
}
