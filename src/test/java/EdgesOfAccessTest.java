/** The edges of ACCESS and of the words with f 1, 2, 3, 5, 6, 7, a sentence at a time. */
public final class EdgesOfAccessTest {
    private static final Checks CHECKS = new Checks("EdgesOfAccess");
    private static final int ILLEGAL = 2, VIRTUAL = 22;
    private static final int[] FS = {1, 2, 3, 5, 6, 7};
    private static final int[] READING_FS = {2, 3, 6, 7};
    private static final int[] NONE = {0x000, 0x0ff, 0x101, 0x106, 0x145, 0x181, 0x201, 0x245, 0x281, 0x300, 0x601,
        0x605, 0x646, 0x64b, 0x681, 0xc00, 0xc02, 0xc80, 0xc82, 0xd01, 0xfff};
    private static final int[] OF_S = {0x100, 0x104, 0x105, 0x140, 0x141, 0x142, 0x143, 0x144, 0x180};
    private static final int[] OF_VS = {0x200, 0x204, 0x205, 0x240, 0x241, 0x242, 0x243, 0x244, 0x280};
    private static final int[] OF_H = {0x600, 0x602, 0x603, 0x604, 0x643, 0x644, 0x645, 0x64a, 0x680};
    private static final int[] TIMES = {Checks.TIME, Checks.TIMEH};

    public static void main(String[] args) {
        aNumberThatIsNone();
        aWriteOfTheTimes();
        aReadOfTheTimes();
        allOthersInS();
        othersInU();
        othersInVu();
        othersInVs();
        atpInVs();
        anSNumberInVs();
        fieldAIsZero();
        fieldAIsARegisterThatIsZero();
        theNumberIsTheRegister();
        theNumberIsTheField();
        dGetsWhatItWas();
        aAndDTheSame();
        dIsNoRegister();
        illegalByDelegation();
        thePcWrapsAround();
        CHECKS.finish();
    }

    /** With field a 0 a write for f 1 and 5 alone, with any other field a for every f. */
    private static void refused(int number, int f, int a, int m, int hstatus, int exception) {
        TrapDesk x = Checks.busy(m);
        x.put(Checks.HSTATUS, hstatus);
        int word = Checks.control(number, a, f, 10);
        String what = "number " + Integer.toHexString(number) + " f " + f + " a " + a + " in " + m;
        State due = State.of(x).trappedToS(exception, word, false);
        CHECKS.due(what, x.doWord(word), exception);
        CHECKS.due(what, x, due);
    }

    private static void read(int number, int f, int m, int hstatus, int told) {
        TrapDesk x = Checks.busy(m);
        x.put(Checks.HSTATUS, hstatus);
        String what = "number " + Integer.toHexString(number) + " f " + f + " read in " + m;
        State due = State.of(x).register(10, told).onByOneWord();
        CHECKS.due(what, x.doWord(Checks.control(number, 0, f, 10)), TrapDesk.DONE);
        CHECKS.due(what, x, due);
    }

    private static int valueIn(int number) {
        return Checks.busy(Checks.S).get(number);
    }

    private static void aNumberThatIsNone() {
        CHECKS.about("ACCESS: of a number that is none of these: ILLEGAL");
        for (int number : NONE) {
            for (int m = 0; m < 4; m++) {
                for (int f : FS) {
                    refused(number, f, 0, m, 0, ILLEGAL);
                    refused(number, f, 1, m, 0, ILLEGAL);
                }
            }
        }
    }

    private static void aWriteOfTheTimes() {
        CHECKS.about("ACCESS: or a write of 0xc01, 0xc81: ILLEGAL");
        for (int number : TIMES) {
            for (int m = 0; m < 4; m++) {
                refused(number, 1, 0, m, 0, ILLEGAL);
                refused(number, 5, 0, m, 0, ILLEGAL);
                for (int f : FS) {
                    refused(number, f, 1, m, 0, ILLEGAL);
                    refused(number, f, 10, m, 0, ILLEGAL);
                    refused(number, f, 31, m, 0, ILLEGAL);
                }
            }
        }
    }

    private static void aReadOfTheTimes() {
        CHECKS.about("ACCESS: in U only TIMEs; in VS .. and TIMEs, in VU TIMEs");
        for (int m = 0; m < 4; m++) {
            for (int f : READING_FS) {
                read(Checks.TIME, f, m, Checks.VTVM, 5);
                read(Checks.TIMEH, f, m, Checks.VTVM, 3);
            }
        }
    }

    private static void allOthersInS() {
        CHECKS.about("ACCESS: in S all others are allowed");
        for (int[] group : new int[][] {OF_S, OF_VS, OF_H}) {
            for (int number : group) {
                for (int f : READING_FS) {
                    int hstatus = Checks.VTVM | Checks.VTW | Checks.VTSR;
                    read(number, f, Checks.S, hstatus, number == Checks.HSTATUS ? hstatus : valueIn(number));
                }
                TrapDesk x = Checks.busy(Checks.S);
                CHECKS.due("a write of " + number, x.doWord(Checks.control(number, 0, 1, 0)), TrapDesk.DONE);
                CHECKS.due("the PC behind it", x.count(1), 0x44);
            }
        }
    }

    private static void othersInU() {
        CHECKS.about("ACCESS: in U only TIMEs, others are illegal");
        for (int[] group : new int[][] {OF_S, OF_VS, OF_H}) {
            for (int number : group) {
                for (int f : FS) {
                    refused(number, f, 0, Checks.U, Checks.HU, ILLEGAL);
                    refused(number, f, 1, Checks.U, Checks.HU, ILLEGAL);
                }
            }
        }
    }

    private static void othersInVu() {
        CHECKS.about("ACCESS: in VU TIMEs, others are VIRTUAL (22)");
        for (int[] group : new int[][] {OF_S, OF_VS, OF_H}) {
            for (int number : group) {
                for (int f : FS) {
                    refused(number, f, 0, Checks.VU, 0, VIRTUAL);
                    refused(number, f, 1, Checks.VU, 0, VIRTUAL);
                }
            }
        }
    }

    private static void othersInVs() {
        CHECKS.about("ACCESS: in VS S ones .. and TIMEs, .. others are VIRTUAL (22)");
        for (int[] group : new int[][] {OF_VS, OF_H}) {
            for (int number : group) {
                for (int f : FS) {
                    refused(number, f, 0, Checks.VS, 0, VIRTUAL);
                    refused(number, f, 1, Checks.VS, 0, VIRTUAL);
                }
            }
        }
    }

    private static void atpInVs() {
        CHECKS.about("ACCESS: in VS S ones (but ATP with VTVM)");
        for (int f : FS) {
            refused(Checks.SATP, f, 0, Checks.VS, Checks.VTVM, VIRTUAL);
            refused(Checks.SATP, f, 1, Checks.VS, Checks.VTVM, VIRTUAL);
        }
        for (int f : READING_FS) {
            read(Checks.SATP, f, Checks.VS, Checks.VTW | Checks.VTSR, valueIn(Checks.VSATP));
        }
    }

    private static void anSNumberInVs() {
        CHECKS.about("In VS an S number means the VS one of its kind");
        for (int i = 0; i < OF_S.length; i++) {
            for (int f : READING_FS) {
                int hstatus = OF_S[i] == Checks.SATP ? 0 : Checks.VTVM;
                read(OF_S[i], f, Checks.VS, hstatus, valueIn(OF_VS[i]));
            }
        }
        for (int number : new int[] {0x140, 0x142, 0x143}) {
            TrapDesk x = Checks.busy(Checks.VS);
            State due = State.of(x).control(number + 0x100, 0x1234).onByOneWord();
            CHECKS.due("a write of " + number, x.doWord(Checks.control(number, 10, 1, 0)), TrapDesk.DONE);
            CHECKS.due("a write of " + number, x, due);
        }
        TrapDesk x = Checks.busy(Checks.VS);
        State due = State.of(x).control(Checks.HIE, 1 << 10 | 1 << 6).control(Checks.VSIE, 1 << 5).onByOneWord();
        x.set(10, 1 << 5 | 1 << 9);
        due.register(10, 1 << 5 | 1 << 9);
        CHECKS.due("a write of IE in VS", x.doWord(Checks.control(Checks.SIE, 10, 1, 0)), TrapDesk.DONE);
        CHECKS.due("a write of IE in VS", x, due);
        TrapDesk y = Checks.busy(Checks.VS);
        State dueOfIp = State.of(y).control(Checks.HVIP, 0x444).control(Checks.HIP, 0x444);
        dueOfIp.control(Checks.VSIP, 0x22).onByOneWord();
        CHECKS.due("a write of IP in VS", y.doWord(Checks.control(Checks.SIP, 2, 5, 0)), TrapDesk.DONE);
        CHECKS.due("a write of IP in VS", y, dueOfIp);
    }

    private static void fieldAIsZero() {
        CHECKS.about("For 2, 3, 6, 7 with field a 0 nothing is written; f 1, 5 it is written");
        for (int f : READING_FS) {
            read(Checks.SSCRATCH, f, Checks.S, 0, 0x101);
        }
        for (int f : new int[] {1, 5}) {
            TrapDesk x = Checks.busy(Checks.S);
            State due = State.of(x).control(Checks.SSCRATCH, 0).register(10, 0x101).onByOneWord();
            CHECKS.due("field a 0 with f " + f, x.doWord(Checks.control(Checks.SSCRATCH, 0, f, 10)), TrapDesk.DONE);
            CHECKS.due("field a 0 with f " + f, x, due);
        }
    }

    private static void fieldAIsARegisterThatIsZero() {
        CHECKS.about("For 2, 3, 6, 7 with field a 0 nothing is written; else it is a write");
        for (int a = 1; a < 32; a++) {
            for (int f : new int[] {2, 3}) {
                TrapDesk x = Checks.busy(Checks.S);
                x.set(10, 0);
                x.set(11, 0);
                x.set(17, 0);
                CHECKS.due("x" + a + " is 0, f " + f, x.doWord(Checks.control(Checks.TIME, a, f, 0)), ILLEGAL);
                x.go(0x40);
                State due = State.of(x).onByOneWord();
                CHECKS.due("x" + a + " is 0", x.doWord(Checks.control(Checks.SSCRATCH, a, f, 0)), TrapDesk.DONE);
                CHECKS.due("no bits, no change", x, due);
            }
        }
    }

    private static void theNumberIsTheRegister() {
        CHECKS.about("the number is x[a]: f 1 it is written; 2 the bits that are in it are set; 3 cleared");
        int[] values = {0, -1, Integer.MIN_VALUE, Integer.MAX_VALUE, 0x0f0f0f0f, 31, 32};
        for (int before : values) {
            for (int v : values) {
                wordWrites(1, 11, v, before, v);
                wordWrites(2, 11, v, before, before | v);
                wordWrites(3, 11, v, before, before & ~v);
            }
        }
    }

    private static void theNumberIsTheField() {
        CHECKS.about("for f above 4 the field a: f 5 it is written; 6 the bits that are in it are set; 7 cleared");
        for (int before : new int[] {0, -1, Integer.MIN_VALUE, 0x15, 0xa}) {
            for (int a = 0; a < 32; a++) {
                wordWrites(5, a, -1, before, a);
                wordWrites(6, a, -1, before, before | a);
                wordWrites(7, a, -1, before, before & ~a);
            }
        }
    }

    private static void wordWrites(int f, int a, int x11, int before, int after) {
        TrapDesk x = Checks.in(Checks.S);
        x.set(11, x11);
        x.put(Checks.SSCRATCH, before);
        String what = "f " + f + " a " + a + " x11 " + x11 + " before " + before;
        CHECKS.due(what, x.doWord(Checks.control(Checks.SSCRATCH, a, f, 17)), TrapDesk.DONE);
        CHECKS.due(what + ", written", x.get(Checks.SSCRATCH), after);
        CHECKS.due(what + ", told", x.register(17), before);
        CHECKS.due(what + ", x11", x.register(11), x11);
        CHECKS.due(what + ", the PC", x.count(1), 0x44);
    }

    private static void dGetsWhatItWas() {
        CHECKS.about("x[d] gets what it was");
        for (int d : new int[] {10, 11, 17}) {
            for (int f : FS) {
                TrapDesk x = Checks.busy(Checks.S);
                State due = State.of(x).register(d, 0x643).onByOneWord();
                due.control(Checks.HTVAL, f == 1 || f == 5 ? 0 : 0x643);
                CHECKS.due("f " + f + " d " + d, x.doWord(Checks.control(Checks.HTVAL, 0, f, d)), TrapDesk.DONE);
                CHECKS.due("f " + f + " d " + d, x, due);
            }
        }
    }

    private static void aAndDTheSame() {
        CHECKS.about("the number is x[a]; x[d] gets what it was (d and a the same)");
        for (int n : new int[] {10, 11, 17}) {
            for (int f : new int[] {1, 2, 3}) {
                TrapDesk x = Checks.in(Checks.S);
                x.set(n, 0b0110);
                x.put(Checks.SSCRATCH, 0b0011);
                CHECKS.due("f " + f, x.doWord(Checks.control(Checks.SSCRATCH, n, f, n)), TrapDesk.DONE);
                CHECKS.due("x" + n, x.register(n), 0b0011);
                CHECKS.due("by f " + f, x.get(Checks.SSCRATCH), f == 1 ? 0b0110 : f == 2 ? 0b0111 : 0b0001);
            }
        }
    }

    private static void dIsNoRegister() {
        CHECKS.about("all others are 0, and what is put to them is lost");
        for (int n = 0; n < 32; n++) {
            if (n != 10 && n != 11 && n != 17) {
                TrapDesk x = Checks.busy(Checks.S);
                State due = State.of(x).control(Checks.SSCRATCH, 0).onByOneWord();
                CHECKS.due("x" + n, x.doWord(Checks.control(Checks.SSCRATCH, n, 1, n)), TrapDesk.DONE);
                CHECKS.due("x" + n, x, due);
                CHECKS.due("register(" + n + ")", x.register(n), 0);
            }
        }
    }

    private static void illegalByDelegation() {
        CHECKS.about("Illegal: exception 2; VIRTUAL: 22 (HEDELEG has bit 2, never 22)");
        for (int m : new int[] {Checks.VU, Checks.VS}) {
            TrapDesk x = Checks.busy(m);
            x.put(Checks.HEDELEG, -1);
            int none = Checks.control(0xfff, 0, 2, 10);
            State due = State.of(x).trappedToVs(ILLEGAL, none);
            CHECKS.due("none in " + m, x.doWord(none), ILLEGAL);
            CHECKS.due("none in " + m, x, due);
            TrapDesk y = Checks.busy(m);
            y.put(Checks.HEDELEG, -1);
            int virtual = Checks.control(Checks.HVIP, 0, 2, 10);
            State dueToS = State.of(y).trappedToS(VIRTUAL, virtual, false);
            CHECKS.due("virtual in " + m, y.doWord(virtual), VIRTUAL);
            CHECKS.due("virtual in " + m, y, dueToS);
        }
    }

    private static void thePcWrapsAround() {
        CHECKS.about("if it is no exception, the PC goes on by 4 (numbers have 32 bits)");
        for (int m = 0; m < 4; m++) {
            TrapDesk x = Checks.busy(m);
            x.go(-4);
            State due = State.of(x).register(10, 5).pc(0);
            CHECKS.due("at the last place", x.doWord(Checks.control(Checks.TIME, 0, 2, 10)), TrapDesk.DONE);
            CHECKS.due("at the last place", x, due);
            x.go(0x7ffffffc);
            CHECKS.due("in the middle", x.doWord(Checks.control(Checks.TIME, 0, 2, 10)), TrapDesk.DONE);
            CHECKS.due("the PC in the middle", x.count(1), Integer.MIN_VALUE);
        }
    }
}
