/** The edges of the words with f 0 and f 4, of words that are none, and of promise 11, a sentence at a time. */
public final class EdgesOfWordsTest {
    private static final Checks CHECKS = new Checks("EdgesOfWords");
    private static final int ILLEGAL = 2, VIRTUAL = 22;
    private static final int ALL_BUT_VTSR = Checks.GVA | Checks.SPV | Checks.SPVP | Checks.HU | Checks.VTVM
            | Checks.VTW;
    private static final int[] WITHOUT_A = {Checks.ECALL, Checks.EBREAK, Checks.SRET, Checks.WFI};
    private static final int[] FENCES = {9, 17, 49};

    public static void main(String[] args) {
        wordsOfAnotherOp();
        immediatesThatAreNotNamed();
        fieldDMustBeZero();
        fieldAMustBeZeroWhereItIsNotUsed();
        fieldsOfFencesAreAny();
        ecallOutsideS();
        ebreakEverywhere();
        sretInS();
        sretInVs();
        sretRefused();
        wfi();
        sfence();
        hfence();
        farAccessThatThereIs();
        farAccessThatThereIsNot();
        farAccessOfVirtualModes();
        farAccessInUWithoutHu();
        whenOffNothingHappens();
        thePcWrapsAround();
        CHECKS.finish();
    }

    private static TrapDesk busy(int m, int hstatus) {
        TrapDesk x = Checks.busy(m);
        x.put(Checks.HSTATUS, hstatus);
        return x;
    }

    private static void trapsToS(int word, int m, int hstatus, int exception) {
        TrapDesk x = busy(m, hstatus);
        int tval = exception == ILLEGAL || exception == VIRTUAL ? word : exception == 3 ? 0x40 : 0;
        State due = State.of(x).trappedToS(exception, tval, exception == 3 && m >= Checks.VU);
        String what = "word " + Integer.toHexString(word) + " in " + m;
        CHECKS.due(what, x.doWord(word), exception);
        CHECKS.due(what, x, due);
    }

    private static void doesNothing(int word, int m, int hstatus) {
        TrapDesk x = busy(m, hstatus);
        State due = State.of(x).onByOneWord();
        String what = "word " + Integer.toHexString(word) + " in " + m;
        CHECKS.due(what, x.doWord(word), TrapDesk.DONE);
        CHECKS.due(what, x, due);
    }

    private static void isOther(int word, int m, int hstatus) {
        TrapDesk x = busy(m, hstatus);
        CHECKS.refused("word " + Integer.toHexString(word) + " in " + m, x, State.of(x), x.doWord(word),
                TrapDesk.OTHER);
    }

    private static void wordsOfAnotherOp() {
        CHECKS.about("doWord: words of another op are illegal");
        for (int op = 0; op < 128; op++) {
            if (op != 115) {
                for (int m = 0; m < 4; m++) {
                    trapsToS(op, m, 0, ILLEGAL);
                    trapsToS(Checks.WFI & ~127 | op, m, 0, ILLEGAL);
                    trapsToS(Checks.word(48, 0, 0, 4, 0) & ~127 | op, m, Checks.HU, ILLEGAL);
                    trapsToS(Checks.control(Checks.TIME, 0, 2, 10) & ~127 | op, m, 0, ILLEGAL);
                }
            }
        }
        for (int word : new int[] {0, -1, 1, Integer.MIN_VALUE, Integer.MAX_VALUE}) {
            trapsToS(word, Checks.S, 0, ILLEGAL);
        }
    }

    private static void immediatesThatAreNotNamed() {
        CHECKS.about("What is not named here is ILLEGAL: exception 2");
        int[] wrong = {2, 3, 32, 64, 255, 256, 257, 259, 260, 262, 263, 287, 320, 511, 770, 773, 2048, 2306, 2309,
            4095};
        for (int i : wrong) {
            for (int m = 0; m < 4; m++) {
                trapsToS(i << 20 | 115, m, 0, ILLEGAL);
            }
        }
        for (int g : new int[] {0, 1, 7, 8, 10, 11, 16, 18, 19, 25, 33, 41, 48, 50, 51, 52, 53, 57, 73, 81, 113, 127}) {
            trapsToS(Checks.word(g, 31, 0, 0, 0), Checks.S, 0, ILLEGAL);
        }
    }

    private static void fieldDMustBeZero() {
        CHECKS.about("f 0, with d 0");
        for (int d = 1; d < 32; d++) {
            for (int m = 0; m < 4; m++) {
                for (int word : WITHOUT_A) {
                    trapsToS(word | d << 7, m, 0, ILLEGAL);
                }
                for (int g : FENCES) {
                    trapsToS(Checks.word(g, 0, 0, 0, d), m, 0, ILLEGAL);
                }
            }
        }
    }

    private static void fieldAMustBeZeroWhereItIsNotUsed() {
        CHECKS.about("f 0, .. and a 0 where it is not used");
        for (int a = 1; a < 32; a++) {
            for (int m = 0; m < 4; m++) {
                for (int word : WITHOUT_A) {
                    trapsToS(word | a << 15, m, 0, ILLEGAL);
                }
            }
        }
    }

    private static void fieldsOfFencesAreAny() {
        CHECKS.about("g 9: sfence (a, b any); g 17, 49: hfence (a, b any)");
        for (int n = 0; n < 32; n++) {
            for (int g : FENCES) {
                doesNothing(Checks.word(g, n, 0, 0, 0), Checks.S, 0);
                doesNothing(Checks.word(g, 0, n, 0, 0), Checks.S, 0);
                doesNothing(Checks.word(g, 31 - n, n, 0, 0), Checks.S, 0);
                trapsToS(Checks.word(g, 31 - n, n, 0, 0), Checks.VU, 0, VIRTUAL);
            }
        }
    }

    private static void ecallOutsideS() {
        CHECKS.about("ecall: exception 8 in U and VU, 10 in VS");
        for (int x17 : new int[] {0, 1, 8, 9}) {
            trapOfEcall(Checks.U, x17, 8);
            trapOfEcall(Checks.VU, x17, 8);
            trapOfEcall(Checks.VS, x17, 10);
        }
        TrapDesk x = busy(Checks.VU, 0);
        x.put(Checks.HEDELEG, -1);
        State due = State.of(x).trappedToVs(8, 0);
        CHECKS.due("ecall in VU, delegated", x.doWord(Checks.ECALL), 8);
        CHECKS.due("ecall in VU, delegated", x, due);
        TrapDesk y = busy(Checks.VS, 0);
        y.put(Checks.HEDELEG, -1);
        State dueToS = State.of(y).trappedToS(10, 0, false);
        CHECKS.due("10 is never delegated", y.doWord(Checks.ECALL), 10);
        CHECKS.due("10 is never delegated", y, dueToS);
    }

    private static void trapOfEcall(int m, int x17, int exception) {
        TrapDesk x = busy(m, 0);
        x.set(17, x17);
        State due = State.of(x).trappedToS(exception, 0, false);
        CHECKS.due("ecall in " + m, x.doWord(Checks.ECALL), exception);
        CHECKS.due("ecall in " + m, x, due);
    }

    private static void ebreakEverywhere() {
        CHECKS.about("I 1: ebreak: exception 3; TVAL: of 3 the PC");
        for (int m = 0; m < 4; m++) {
            trapsToS(Checks.EBREAK, m, Checks.SPVP, 3);
        }
        TrapDesk x = busy(Checks.VU, Checks.SPVP);
        x.put(Checks.HEDELEG, 1 << 3);
        x.go(-4);
        State due = State.of(x).trappedToVs(3, -4);
        CHECKS.due("ebreak in VU, delegated", x.doWord(Checks.EBREAK), 3);
        CHECKS.due("ebreak in VU, delegated", x, due);
    }

    private static int status(int bits, int more) {
        return more | ((bits & 1) != 0 ? Checks.IE : 0) | ((bits & 2) != 0 ? Checks.PIE : 0)
                | ((bits & 4) != 0 ? Checks.PP : 0);
    }

    private static int statusBehindSret(int bits, int more) {
        return more | Checks.PIE | ((bits & 2) != 0 ? Checks.IE : 0);
    }

    private static void sretInS() {
        CHECKS.about("sret in S: on at EPC, in mode PP of STATUS, virtual if SPV; IE becomes PIE, PIE 1, PP 0, SPV 0");
        for (int bits = 0; bits < 8; bits++) {
            for (int spv : new int[] {0, Checks.SPV}) {
                for (int epc : new int[] {0, 4, -4, 0x7ffffffc, Integer.MIN_VALUE}) {
                    TrapDesk x = busy(Checks.S, ALL_BUT_VTSR & ~Checks.SPV | Checks.VTSR | spv);
                    x.put(Checks.SSTATUS, status(bits, Checks.SUM));
                    x.put(Checks.SEPC, epc);
                    State due = State.of(x).pc(epc).mode((bits & 4) / 4 + (spv != 0 ? 2 : 0));
                    due.control(Checks.SSTATUS, statusBehindSret(bits, Checks.SUM));
                    due.control(Checks.HSTATUS, ALL_BUT_VTSR & ~Checks.SPV | Checks.VTSR);
                    CHECKS.due("sret of " + bits, x.doWord(Checks.SRET), TrapDesk.DONE);
                    CHECKS.due("sret of " + bits, x, due);
                }
            }
        }
    }

    private static void sretInVs() {
        CHECKS.about("sret in VS, without VTSR: so by VS ones, virtual");
        for (int bits = 0; bits < 8; bits++) {
            for (int epc : new int[] {0, 4, -4, 0x7ffffffc, Integer.MIN_VALUE}) {
                TrapDesk x = busy(Checks.VS, ALL_BUT_VTSR);
                x.put(Checks.VSSTATUS, status(bits, Checks.MXR));
                x.put(Checks.VSEPC, epc);
                State due = State.of(x).pc(epc).mode((bits & 4) != 0 ? Checks.VS : Checks.VU);
                due.control(Checks.VSSTATUS, statusBehindSret(bits, Checks.MXR));
                CHECKS.due("sret of VS " + bits, x.doWord(Checks.SRET), TrapDesk.DONE);
                CHECKS.due("sret of VS " + bits, x, due);
            }
        }
    }

    private static void sretRefused() {
        CHECKS.about("sret in VS with VTSR and in VU: exception 22; U: illegal");
        trapsToS(Checks.SRET, Checks.VS, Checks.VTSR, VIRTUAL);
        trapsToS(Checks.SRET, Checks.VU, 0, VIRTUAL);
        trapsToS(Checks.SRET, Checks.VU, Checks.VTSR, VIRTUAL);
        trapsToS(Checks.SRET, Checks.U, 0, ILLEGAL);
        trapsToS(Checks.SRET, Checks.U, Checks.HU | Checks.SPV, ILLEGAL);
    }

    private static void wfi() {
        CHECKS.about("wfi: S, and VS without VTW: nothing; VS with it, VU: exception 22; U: illegal");
        doesNothing(Checks.WFI, Checks.S, Checks.VTW);
        doesNothing(Checks.WFI, Checks.VS, Checks.VTVM | Checks.VTSR);
        trapsToS(Checks.WFI, Checks.VS, Checks.VTW, VIRTUAL);
        trapsToS(Checks.WFI, Checks.VU, 0, VIRTUAL);
        trapsToS(Checks.WFI, Checks.U, Checks.HU, ILLEGAL);
    }

    private static void sfence() {
        CHECKS.about("sfence: S, and VS without VTVM: nothing; VS with it, VU: exception 22; U: illegal");
        int word = Checks.word(9, 3, 7, 0, 0);
        doesNothing(word, Checks.S, Checks.VTVM);
        doesNothing(word, Checks.VS, Checks.VTW | Checks.VTSR);
        trapsToS(word, Checks.VS, Checks.VTVM, VIRTUAL);
        trapsToS(word, Checks.VU, 0, VIRTUAL);
        trapsToS(word, Checks.U, Checks.HU, ILLEGAL);
    }

    private static void hfence() {
        CHECKS.about("hfence: S nothing; VS, VU: exception 22; U illegal");
        for (int g : new int[] {17, 49}) {
            int word = Checks.word(g, 3, 7, 0, 0);
            doesNothing(word, Checks.S, Checks.VTVM | Checks.VTW | Checks.VTSR);
            trapsToS(word, Checks.VS, 0, VIRTUAL);
            trapsToS(word, Checks.VU, 0, VIRTUAL);
            trapsToS(word, Checks.U, Checks.HU, ILLEGAL);
        }
    }

    private static boolean isNamed(int g, int b, int d) {
        boolean load = b == 0 && (g == 48 || g == 50 || g == 52) || b == 1 && (g == 48 || g == 50)
                || b == 3 && (g == 50 || g == 52);
        return load || d == 0 && (g == 49 || g == 51 || g == 53);
    }

    private static void farAccessThatThereIs() {
        CHECKS.about("f 4: .. else OTHER: they are not done here, nothing changes");
        for (int g = 47; g < 55; g++) {
            for (int b = 0; b < 32; b++) {
                for (int d : new int[] {0, 1, 10, 31}) {
                    if (isNamed(g, b, d)) {
                        isOther(Checks.word(g, b, 10, 4, d), Checks.S, 0);
                        isOther(Checks.word(g, b, 0, 4, d), Checks.U, Checks.HU);
                    }
                }
            }
        }
    }

    private static void farAccessThatThereIsNot() {
        CHECKS.about("f 4: g 48, 50, 52 with b 0; g 48, 50 with b 1; g 50, 52 with b 3; g 49, 51, 53 with d 0");
        for (int g : new int[] {0, 16, 32, 47, 48, 49, 50, 51, 52, 53, 54, 55, 112, 127}) {
            for (int b = 0; b < 32; b++) {
                for (int d : new int[] {0, 1, 10, 16, 31}) {
                    if (!isNamed(g, b, d)) {
                        for (int m = 0; m < 4; m++) {
                            trapsToS(Checks.word(g, b, 0, 4, d), m, Checks.HU, ILLEGAL);
                        }
                    }
                }
            }
        }
    }

    private static void farAccessOfVirtualModes() {
        CHECKS.about("f 4: in VS, VU exception 22");
        for (int g = 48; g < 54; g++) {
            for (int m : new int[] {Checks.VU, Checks.VS}) {
                trapsToS(Checks.word(g, 0, 3, 4, 0), m, 0, VIRTUAL);
                trapsToS(Checks.word(g, 0, 3, 4, 0), m, Checks.HU, VIRTUAL);
            }
        }
    }

    private static void farAccessInUWithoutHu() {
        CHECKS.about("f 4: in U without HU illegal");
        for (int g = 48; g < 54; g++) {
            trapsToS(Checks.word(g, 0, 3, 4, 0), Checks.U, 0, ILLEGAL);
            trapsToS(Checks.word(g, 0, 3, 4, 0), Checks.U, 0x700000 | Checks.SPV | Checks.SPVP, ILLEGAL);
        }
    }

    private static void whenOffNothingHappens() {
        CHECKS.about("doWord: OFF: the machine is off, nothing happens");
        int[] words = {Checks.ECALL, Checks.EBREAK, Checks.SRET, Checks.WFI, 0, -1, 19, Checks.word(9, 0, 0, 0, 0),
            Checks.word(17, 0, 0, 0, 0), Checks.word(48, 0, 0, 4, 0), Checks.control(Checks.SSCRATCH, 10, 1, 11),
            Checks.control(Checks.TIME, 0, 2, 10), Checks.control(0xfff, 0, 2, 10)};
        for (int word : words) {
            for (int m = 0; m < 4; m++) {
                TrapDesk x = Checks.busyAndOff(m);
                CHECKS.refused("off: " + Integer.toHexString(word), x, State.of(x), x.doWord(word), TrapDesk.OFF);
            }
        }
    }

    private static void thePcWrapsAround() {
        CHECKS.about("if it is no exception, the PC goes on by 4 (numbers have 32 bits)");
        int[] words = {Checks.ECALL, Checks.WFI, Checks.word(9, 0, 0, 0, 0), Checks.word(49, 0, 0, 0, 0)};
        for (int word : words) {
            TrapDesk x = Checks.in(Checks.S);
            x.go(-4);
            CHECKS.due("at the last place", x.doWord(word), TrapDesk.DONE);
            CHECKS.due("the PC behind the last place", x.count(1), 0);
            x.go(0x7ffffffc);
            x.doWord(word);
            CHECKS.due("the PC in the middle", x.count(1), Integer.MIN_VALUE);
        }
        TrapDesk x = Checks.in(Checks.S);
        x.go(-4);
        CHECKS.due("an exception at the last place", x.doWord(0), ILLEGAL);
        CHECKS.due("EPC is the PC", x.get(Checks.SEPC), -4);
    }
}
