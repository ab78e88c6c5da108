import java.util.Arrays;

/**
 * All that can be seen of an object, so that a test can say what a call changes and that nothing else does.
 * To look costs some 41 calls and one for each byte of the console, up to 8: an object has 512.
 */
final class State {
    private static final int COUNTS = 9, MODE = 0, PC = 1, BYTES_SEEN = 8;
    private static final int[] REGISTERS = {10, 11, 17};

    private final int[] counts = new int[COUNTS];
    private final int[] registers = new int[REGISTERS.length];
    private final int[] controls = new int[Checks.ALL_KNOWN.length];
    private final int[] bytes = new int[BYTES_SEEN];

    private State() {
        Arrays.fill(bytes, TrapDesk.BAD);
    }

    static State of(TrapDesk x) {
        State seen = new State();
        for (int which = 0; which < COUNTS; which++) {
            seen.counts[which] = x.count(which);
        }
        for (int i = 0; i < REGISTERS.length; i++) {
            seen.registers[i] = x.register(REGISTERS[i]);
        }
        for (int i = 0; i < Checks.ALL_KNOWN.length; i++) {
            seen.controls[i] = x.get(Checks.ALL_KNOWN[i]);
        }
        for (int i = 0; i < BYTES_SEEN && i < seen.counts[5]; i++) {
            seen.bytes[i] = x.console(i);
        }
        return seen;
    }

    /** As promises 1 and 2 say it, without looking at an object. */
    static State atFirst() {
        return new State().mode(Checks.S).count(7, -1).count(8, Integer.MAX_VALUE);
    }

    State count(int which, int v) {
        counts[which] = v;
        return this;
    }

    State mode(int m) {
        return count(MODE, m);
    }

    State pc(int pc) {
        return count(PC, pc);
    }

    State onByOneWord() {
        return pc(counts[PC] + 4);
    }

    State register(int n, int v) {
        registers[placeOf(REGISTERS, n)] = v;
        return this;
    }

    State control(int number, int v) {
        controls[placeOf(Checks.ALL_KNOWN, number)] = v;
        return this;
    }

    State printed(int i, int v) {
        bytes[i] = v;
        return count(5, i + 1);
    }

    /** What a trap to S leaves, with the handler at 0x1000; the address is one of VU or VS if so told. */
    State trappedToS(int cause, int tval, boolean guestAddress) {
        int m = counts[MODE];
        boolean virtual = m == Checks.VU || m == Checks.VS;
        control(Checks.SSTATUS, statusBehind(controlOf(Checks.SSTATUS), m));
        int hstatus = controlOf(Checks.HSTATUS) & ~(Checks.GVA | Checks.SPV);
        if (virtual) {
            hstatus = hstatus & ~Checks.SPVP | Checks.SPV | (m == Checks.VS ? Checks.SPVP : 0);
        }
        control(Checks.HSTATUS, hstatus | (guestAddress ? Checks.GVA : 0));
        control(Checks.SEPC, counts[PC]).control(Checks.SCAUSE, cause).control(Checks.STVAL, tval);
        control(Checks.HTVAL, 0).control(Checks.HTINST, 0);
        return count(2, counts[2] + 1).mode(Checks.S).pc(0x1000);
    }

    /** What a trap to VS leaves, with the handler at 0x2000. */
    State trappedToVs(int cause, int tval) {
        control(Checks.VSSTATUS, statusBehind(controlOf(Checks.VSSTATUS), counts[MODE]));
        control(Checks.VSEPC, counts[PC]).control(Checks.VSCAUSE, cause).control(Checks.VSTVAL, tval);
        return count(3, counts[3] + 1).mode(Checks.VS).pc(0x2000);
    }

    State oneInterruptMore() {
        return count(4, counts[4] + 1);
    }

    private static int statusBehind(int status, int m) {
        int kept = status & (Checks.SUM | Checks.MXR);
        int previous = (status & Checks.IE) != 0 ? Checks.PIE : 0;
        return kept | previous | (m == Checks.S || m == Checks.VS ? Checks.PP : 0);
    }

    private int controlOf(int number) {
        return controls[placeOf(Checks.ALL_KNOWN, number)];
    }

    private static int placeOf(int[] row, int v) {
        for (int i = 0; i < row.length; i++) {
            if (row[i] == v) {
                return i;
            }
        }
        throw new IllegalArgumentException("no place of " + v);
    }

    /** Empty if both are the same. */
    String differenceFrom(State due) {
        StringBuilder text = new StringBuilder();
        for (int i = 0; i < COUNTS; i++) {
            tell(text, "count " + i, counts[i], due.counts[i]);
        }
        for (int i = 0; i < REGISTERS.length; i++) {
            tell(text, "x" + REGISTERS[i], registers[i], due.registers[i]);
        }
        for (int i = 0; i < controls.length; i++) {
            tell(text, "register 0x" + Integer.toHexString(Checks.ALL_KNOWN[i]), controls[i], due.controls[i]);
        }
        for (int i = 0; i < BYTES_SEEN; i++) {
            tell(text, "byte " + i, bytes[i], due.bytes[i]);
        }
        return text.toString();
    }

    private static void tell(StringBuilder text, String what, int got, int want) {
        if (got != want) {
            text.append(' ').append(what).append(" is ").append(got).append(", due is ").append(want).append(';');
        }
    }
}
