/**
 * The traps of a machine with a hypervisor's mode (S) and virtual modes (VU, VS):
 * control registers, words of the system, exceptions, interrupts and a small firmware.
 */
public final class TrapDesk {
    public static final int BAD = -1, DONE = -1, OTHER = -2, OFF = -3;

    private static final int U = 0, S = 1, VU = 2, VS = 3;

    private static final int ILLEGAL = 2, BREAKPOINT = 3, CALL_OF_USER = 8, CALL_OF_VS = 10, VIRTUAL = 22;

    // Sets of exceptions, bit n for exception n.
    private static final int TOLD_BY_FAIL = 0x00b0b0f3;
    private static final int WITH_ADDRESS = TOLD_BY_FAIL | 1 << BREAKPOINT;
    private static final int OF_SECOND_STAGE = 0x00b00000;

    private static final long SECOND_STAGE_END = 1L << 34;
    private static final int ENTRY_READ = 0x2000;
    private static final int INTERRUPT = 0x80000000;
    private static final int OFFSET_OF_VS_ANSWERS = 100;

    private static final int[] ORDER_FOR_S = {9, 1, 5, 10, 2, 6};
    private static final int[] ORDER_FOR_VS = {10, 2, 6};
    private static final int NONE_DUE = -1;

    private static final int SYSTEM_OP = 115;

    private final Controls controls;
    private final Outside outside;
    private final Registers registers;
    private int current;
    private int pc;
    private int trapsToS;
    private int trapsToVs;
    private int interrupts;

    public TrapDesk() {
        controls = new Controls();
        outside = controls.outside;
        registers = new Registers();
        current = S;
    }

    public void begin() {
        controls.reset();
        registers.reset();
        current = S;
        pc = 0;
        trapsToS = 0;
        trapsToVs = 0;
        interrupts = 0;
    }

    public int mode(int m) {
        if (m < U || m > VS) {
            return BAD;
        }
        int before = current;
        current = m;
        return before;
    }

    public int go(int pc) {
        if ((pc & 3) != 0) {
            return BAD;
        }
        this.pc = pc;
        return 0;
    }

    public int put(int number, int v) {
        if (!Numbers.isKnown(number) || Numbers.isTime(number)) {
            return BAD;
        }
        controls.write(number, v);
        return 0;
    }

    public int get(int number) {
        return controls.read(number);
    }

    public long time(long t) {
        if (t < 0) {
            return BAD;
        }
        long before = outside.now;
        outside.now = t;
        return before;
    }

    public boolean line(boolean on) {
        boolean before = outside.lineOn;
        outside.lineOn = on;
        return before;
    }

    public int set(int n, int v) {
        int before = registers.read(n);
        registers.write(n, v);
        return before;
    }

    public int register(int n) {
        return registers.read(n);
    }

    public int doWord(int word) {
        if (outside.isOff) {
            return OFF;
        }
        int outcome = perform(word);
        if (outcome >= 0) {
            raise(outcome, trapValue(outcome, word), false, 0, 0);
        }
        return outcome;
    }

    public int fail(int exception, int value, boolean far, long second, boolean entry) {
        if (!isIn(TOLD_BY_FAIL, exception) || second < 0 || second >= SECOND_STAGE_END) {
            return BAD;
        }
        if (outside.isOff) {
            return OFF;
        }
        if (isIn(OF_SECOND_STAGE, exception)) {
            raise(exception, value, far, (int) (second >>> 2), entry ? ENTRY_READ : 0);
        } else {
            raise(exception, value, far, 0, 0);
        }
        return current;
    }

    public int interrupt() {
        if (outside.isOff) {
            return OFF;
        }
        int forS = dueForS();
        if (forS != NONE_DUE) {
            interrupts++;
            enterS(INTERRUPT | forS, 0, false, 0, 0);
            return forS;
        }
        int forVs = dueForVs();
        if (forVs != NONE_DUE) {
            interrupts++;
            enterVs(INTERRUPT | forVs, 0);
            return OFFSET_OF_VS_ANSWERS + forVs;
        }
        return BAD;
    }

    public int count(int which) {
        switch (which) {
            case 0: return current;
            case 1: return pc;
            case 2: return trapsToS;
            case 3: return trapsToVs;
            case 4: return interrupts;
            case 5: return outside.printed;
            case 6: return outside.isOff ? 1 : 0;
            case 7: return (int) outside.alarm;
            case 8: return (int) (outside.alarm >>> 32);
            default: return BAD;
        }
    }

    public int console(int i) {
        return outside.printedByte(i);
    }

    // ---- words: each of these answers DONE, OTHER or the exception that is to be raised

    private int perform(int word) {
        if ((word & 0x7f) != SYSTEM_OP) {
            return ILLEGAL;
        }
        int f = word >>> 12 & 7;
        if (f == 0) {
            return systemWord(word);
        }
        if (f == 4) {
            return farAccessWord(word);
        }
        return controlWord(word, f);
    }

    private int systemWord(int word) {
        if (fieldD(word) != 0) {
            return ILLEGAL;
        }
        switch (fieldG(word)) {
            case 9: return nothingUnless(Hyper.VTVM);
            case 17:
            case 49: return hypervisorFence();
            default: return wordWithoutA(word);
        }
    }

    private int wordWithoutA(int word) {
        if (fieldA(word) != 0) {
            return ILLEGAL;
        }
        switch (word >>> 20) {
            case 0: return environmentCall();
            case 1: return BREAKPOINT;
            case 258: return supervisorReturn();
            case 261: return nothingUnless(Hyper.VTW);
            default: return ILLEGAL;
        }
    }

    private int environmentCall() {
        if (current == VS) {
            return CALL_OF_VS;
        }
        if (current != S) {
            return CALL_OF_USER;
        }
        int answer = outside.serve(registers.x17, registers.x10, registers.x11);
        registers.x10 = answer;
        return goOn();
    }

    private int supervisorReturn() {
        int refusal = refusalOfSupervisorWord(Hyper.VTSR);
        if (refusal != DONE) {
            return refusal;
        }
        if (current == VS) {
            pc = controls.guest.epc;
            current = controls.guest.leave() ? VS : VU;
            return DONE;
        }
        pc = controls.host.epc;
        boolean toSupervisor = controls.host.leave();
        boolean toVirtual = controls.hyper.leave();
        if (toVirtual) {
            current = toSupervisor ? VS : VU;
        } else {
            current = toSupervisor ? S : U;
        }
        return DONE;
    }

    private int nothingUnless(int trapBit) {
        int refusal = refusalOfSupervisorWord(trapBit);
        return refusal == DONE ? goOn() : refusal;
    }

    /** DONE where a supervisor's word may be done; in VS the hypervisor forbids it by a bit of HSTATUS. */
    private int refusalOfSupervisorWord(int trapBit) {
        switch (current) {
            case S: return DONE;
            case VS: return controls.hyper.hasStatus(trapBit) ? VIRTUAL : DONE;
            case VU: return VIRTUAL;
            default: return ILLEGAL;
        }
    }

    private int hypervisorFence() {
        if (isVirtual()) {
            return VIRTUAL;
        }
        return current == U ? ILLEGAL : goOn();
    }

    private int farAccessWord(int word) {
        if (!isFarAccess(fieldG(word), fieldB(word), fieldD(word))) {
            return ILLEGAL;
        }
        if (isVirtual()) {
            return VIRTUAL;
        }
        if (current == U && !controls.hyper.hasStatus(Hyper.HU)) {
            return ILLEGAL;
        }
        return OTHER;
    }

    private static boolean isFarAccess(int g, int b, int d) {
        switch (g) {
            case 48: return b == 0 || b == 1;
            case 50: return b == 0 || b == 1 || b == 3;
            case 52: return b == 0 || b == 3;
            case 49:
            case 51:
            case 53: return d == 0;
            default: return false;
        }
    }

    private int controlWord(int word, int f) {
        int number = word >>> 20;
        int a = fieldA(word);
        int kind = f & 3;
        boolean writes = kind == 1 || a != 0;
        int refusal = refusalOfAccess(number, writes);
        if (refusal != DONE) {
            return refusal;
        }
        int place = current == VS ? Numbers.inVs(number) : number;
        int operand = f > 4 ? a : registers.read(a);
        int before = controls.read(place);
        if (writes) {
            controls.write(place, combined(kind, before, operand));
        }
        registers.write(fieldD(word), before);
        return goOn();
    }

    private static int combined(int kind, int before, int operand) {
        switch (kind) {
            case 1: return operand;
            case 2: return before | operand;
            default: return before & ~operand;
        }
    }

    private int refusalOfAccess(int number, boolean writes) {
        if (!Numbers.isKnown(number)) {
            return ILLEGAL;
        }
        if (Numbers.isTime(number)) {
            return writes ? ILLEGAL : DONE;
        }
        switch (current) {
            case S: return DONE;
            case U: return ILLEGAL;
            case VS: return isOpenToVs(number) ? DONE : VIRTUAL;
            default: return VIRTUAL;
        }
    }

    private boolean isOpenToVs(int number) {
        if (!Numbers.isOfS(number)) {
            return false;
        }
        return number != Numbers.S_ATP || !controls.hyper.hasStatus(Hyper.VTVM);
    }

    private int goOn() {
        pc += 4;
        return DONE;
    }

    private static int fieldD(int word) {
        return word >>> 7 & 31;
    }

    private static int fieldA(int word) {
        return word >>> 15 & 31;
    }

    private static int fieldB(int word) {
        return word >>> 20 & 31;
    }

    private static int fieldG(int word) {
        return word >>> 25;
    }

    // ---- traps

    private int trapValue(int exception, int word) {
        switch (exception) {
            case ILLEGAL:
            case VIRTUAL: return word;
            case BREAKPOINT: return pc;
            default: return 0;
        }
    }

    private void raise(int exception, int value, boolean far, int secondStage, int instruction) {
        if (isVirtual() && isIn(controls.hyper.edeleg, exception)) {
            enterVs(exception, value);
            return;
        }
        boolean guestAddress = isIn(WITH_ADDRESS, exception) && (far || isVirtual());
        enterS(exception, value, guestAddress, secondStage, instruction);
    }

    private void enterS(int cause, int value, boolean guestAddress, int secondStage, int instruction) {
        controls.hyper.enter(isVirtual(), isSupervisor(), guestAddress);
        controls.hyper.tval = secondStage;
        controls.hyper.tinst = instruction;
        pc = controls.host.enter(pc, cause, value, isSupervisor());
        current = S;
        trapsToS++;
    }

    private void enterVs(int cause, int value) {
        pc = controls.guest.enter(pc, cause, value, isSupervisor());
        current = VS;
        trapsToVs++;
    }

    private int dueForS() {
        if (current == S && !controls.host.hasInterruptsOn()) {
            return NONE_DUE;
        }
        return firstOf(ORDER_FOR_S, controls.waitingForS());
    }

    /** The number that the interrupt has for VS, one below the one that it has for S. */
    private int dueForVs() {
        if (!isVirtual() || current == VS && !controls.guest.hasInterruptsOn()) {
            return NONE_DUE;
        }
        int first = firstOf(ORDER_FOR_VS, controls.waitingForVs());
        return first == NONE_DUE ? NONE_DUE : first - 1;
    }

    private static int firstOf(int[] order, int waiting) {
        for (int i = 0; i < order.length; i++) {
            if (isIn(waiting, order[i])) {
                return order[i];
            }
        }
        return NONE_DUE;
    }

    private boolean isVirtual() {
        return current == VU || current == VS;
    }

    private boolean isSupervisor() {
        return current == S || current == VS;
    }

    /** The range is looked at because a shift counts modulo 32. */
    private static boolean isIn(int set, int n) {
        return n >= 0 && n < 32 && (set >>> n & 1) != 0;
    }

    /** The registers x10, x11 and x17; all others are 0 and lose what is written. */
    private static final class Registers {
        int x10;
        int x11;
        int x17;

        void reset() {
            x10 = 0;
            x11 = 0;
            x17 = 0;
        }

        int read(int n) {
            switch (n) {
                case 10: return x10;
                case 11: return x11;
                case 17: return x17;
                default: return 0;
            }
        }

        void write(int n, int v) {
            switch (n) {
                case 10: x10 = v; break;
                case 11: x11 = v; break;
                case 17: x17 = v; break;
                default: break;
            }
        }
    }

    /** What stands outside the processor: time, the line, and the firmware with its alarm, console and switch. */
    private static final class Outside {
        static final int CONSOLE_SIZE = 256;
        static final int SET_ALARM = 0, PRINT = 1, SWITCH_OFF = 8;
        static final int SERVED = 0, NOT_SERVED = -2;
        static final long LATEST_ALARM = 0x7fffffffffffffffL;

        final byte[] bytes;
        int printed;
        long now;
        long alarm;
        boolean lineOn;
        boolean isOff;

        Outside() {
            bytes = new byte[CONSOLE_SIZE];
            alarm = LATEST_ALARM;
        }

        // The bytes stay: none at or behind the count is ever told.
        void reset() {
            printed = 0;
            now = 0;
            alarm = LATEST_ALARM;
            lineOn = false;
            isOff = false;
        }

        boolean alarmRings() {
            return now >= alarm;
        }

        int serve(int service, int low, int high) {
            switch (service) {
                case SET_ALARM: setAlarm(low, high); return SERVED;
                case PRINT: print(low); return SERVED;
                case SWITCH_OFF: isOff = true; return SERVED;
                default: return NOT_SERVED;
            }
        }

        void setAlarm(int low, int high) {
            if (high < 0) {
                alarm = LATEST_ALARM;
            } else {
                alarm = (long) high << 32 | low & 0xffffffffL;
            }
        }

        void print(int v) {
            if (printed < bytes.length) {
                bytes[printed] = (byte) v;
                printed++;
            }
        }

        int printedByte(int i) {
            if (i < 0 || i >= printed || i >= bytes.length) {
                return BAD;
            }
            return bytes[i] & 0xff;
        }
    }

    /** Which numbers the control registers have. */
    private static final class Numbers {
        static final int S_BASE = 0x100, VS_BASE = 0x200;
        static final int STATUS = 0x00, IE = 0x04, TVEC = 0x05, SCRATCH = 0x40, EPC = 0x41;
        static final int CAUSE = 0x42, TVAL = 0x43, IP = 0x44, ATP = 0x80;
        static final int S_ATP = S_BASE | ATP;
        static final int HSTATUS = 0x600, HEDELEG = 0x602, HIDELEG = 0x603, HIE = 0x604;
        static final int HTVAL = 0x643, HIP = 0x644, HVIP = 0x645, HTINST = 0x64a, HGATP = 0x680;
        static final int TIME = 0xc01, TIME_UPPER = 0xc81;

        static boolean isKnown(int number) {
            return isOfS(number) || isOfVs(number) || isOfH(number) || isTime(number);
        }

        static boolean isOfS(int number) {
            return isOf(S_BASE, number);
        }

        static boolean isOfVs(int number) {
            return isOf(VS_BASE, number);
        }

        static boolean isOf(int base, int number) {
            return (number & ~0xff) == base && isKind(kindOf(number));
        }

        static int kindOf(int number) {
            return number & 0xff;
        }

        static boolean isKind(int kind) {
            switch (kind) {
                case STATUS: case IE: case TVEC: case SCRATCH: case EPC:
                case CAUSE: case TVAL: case IP: case ATP: return true;
                default: return false;
            }
        }

        static boolean isOfH(int number) {
            switch (number) {
                case HSTATUS: case HEDELEG: case HIDELEG: case HIE: case HTVAL:
                case HIP: case HVIP: case HTINST: case HGATP: return true;
                default: return false;
            }
        }

        static boolean isTime(int number) {
            return number == TIME || number == TIME_UPPER;
        }

        static int inVs(int number) {
            return isOfS(number) ? VS_BASE | kindOf(number) : number;
        }
    }

    /** The registers that S and VS have each for itself, but for IE and IP, which are seen through others. */
    private static final class Bank {
        static final int IE = 1 << 1, PIE = 1 << 5, PP = 1 << 8, SUM = 1 << 18, MXR = 1 << 19;
        static final int STATUS_KEPT = IE | PIE | PP | SUM | MXR;
        static final int ATP_KEPT = 0x803fffff;

        int status;
        int tvec;
        int scratch;
        int epc;
        int cause;
        int tval;
        int atp;

        void reset() {
            status = 0;
            tvec = 0;
            scratch = 0;
            epc = 0;
            cause = 0;
            tval = 0;
            atp = 0;
        }

        int read(int kind) {
            switch (kind) {
                case Numbers.STATUS: return status;
                case Numbers.TVEC: return tvec;
                case Numbers.SCRATCH: return scratch;
                case Numbers.EPC: return epc;
                case Numbers.CAUSE: return cause;
                case Numbers.TVAL: return tval;
                case Numbers.ATP: return atp;
                default: return 0;
            }
        }

        void write(int kind, int v) {
            switch (kind) {
                case Numbers.STATUS: status = v & STATUS_KEPT; break;
                case Numbers.TVEC: tvec = v & ~2; break;
                case Numbers.SCRATCH: scratch = v; break;
                case Numbers.EPC: epc = v & ~3; break;
                case Numbers.CAUSE: cause = v; break;
                case Numbers.TVAL: tval = v; break;
                case Numbers.ATP: atp = v & ATP_KEPT; break;
                default: break;
            }
        }

        boolean hasInterruptsOn() {
            return (status & IE) != 0;
        }

        /** Takes a trap and answers the PC of its handler. */
        int enter(int pc, int newCause, int value, boolean fromSupervisor) {
            epc = pc;
            cause = newCause;
            tval = value;
            int kept = status & ~(IE | PIE | PP);
            int previous = hasInterruptsOn() ? PIE : 0;
            status = kept | previous | (fromSupervisor ? PP : 0);
            return handlerOf(newCause);
        }

        int handlerOf(int newCause) {
            int base = tvec & ~3;
            boolean vectored = (newCause & INTERRUPT) != 0 && (tvec & 1) != 0;
            return vectored ? base + 4 * (newCause & ~INTERRUPT) : base;
        }

        /** Undoes what enter() did to STATUS: whether the way goes back to a supervisor. */
        boolean leave() {
            boolean toSupervisor = (status & PP) != 0;
            int kept = status & ~(IE | PP);
            status = kept | PIE | ((status & PIE) != 0 ? IE : 0);
            return toSupervisor;
        }
    }

    /** The hypervisor's registers. */
    private static final class Hyper {
        static final int GVA = 1 << 6, SPV = 1 << 7, SPVP = 1 << 8, HU = 1 << 9;
        static final int VTVM = 1 << 20, VTW = 1 << 21, VTSR = 1 << 22;
        static final int STATUS_KEPT = GVA | SPV | SPVP | HU | VTVM | VTW | VTSR;
        static final int EDELEG_KEPT = 0xb1ff;
        static final int GUEST_INTERRUPTS = 0x444;
        static final int SOFTWARE = 1 << 2;
        static final int GATP_KEPT = 0x803ffffc;

        int status;
        int edeleg;
        int ideleg;
        int ie;
        int tval;
        int vip;
        int tinst;
        int gatp;

        void reset() {
            status = 0;
            edeleg = 0;
            ideleg = 0;
            ie = 0;
            tval = 0;
            vip = 0;
            tinst = 0;
            gatp = 0;
        }

        int read(int number) {
            switch (number) {
                case Numbers.HSTATUS: return status;
                case Numbers.HEDELEG: return edeleg;
                case Numbers.HIDELEG: return ideleg;
                case Numbers.HIE: return ie;
                case Numbers.HTVAL: return tval;
                case Numbers.HIP:
                case Numbers.HVIP: return vip;
                case Numbers.HTINST: return tinst;
                case Numbers.HGATP: return gatp;
                default: return 0;
            }
        }

        void write(int number, int v) {
            switch (number) {
                case Numbers.HSTATUS: status = v & STATUS_KEPT; break;
                case Numbers.HEDELEG: edeleg = v & EDELEG_KEPT; break;
                case Numbers.HIDELEG: ideleg = v & GUEST_INTERRUPTS; break;
                case Numbers.HIE: ie = v & GUEST_INTERRUPTS; break;
                case Numbers.HTVAL: tval = v; break;
                case Numbers.HIP: vip = replaced(vip, SOFTWARE, v); break;
                case Numbers.HVIP: vip = v & GUEST_INTERRUPTS; break;
                case Numbers.HTINST: tinst = v; break;
                case Numbers.HGATP: gatp = v & GATP_KEPT; break;
                default: break;
            }
        }

        static int replaced(int old, int mask, int v) {
            return old & ~mask | v & mask;
        }

        boolean hasStatus(int bit) {
            return (status & bit) != 0;
        }

        int guestIe() {
            return (ie & ideleg) >>> 1;
        }

        int guestIp() {
            return (vip & ideleg) >>> 1;
        }

        void writeGuestIe(int v) {
            ie = replaced(ie, ideleg, v << 1);
        }

        void writeGuestIp(int v) {
            vip = replaced(vip, ideleg & SOFTWARE, v << 1);
        }

        void enter(boolean fromVirtual, boolean fromSupervisor, boolean guestAddress) {
            status = replaced(status, GVA, guestAddress ? GVA : 0);
            status = replaced(status, SPV, fromVirtual ? SPV : 0);
            if (fromVirtual) {
                status = replaced(status, SPVP, fromSupervisor ? SPVP : 0);
            }
        }

        /** Whether the way back leads to a virtual mode. */
        boolean leave() {
            boolean toVirtual = hasStatus(SPV);
            status = status & ~SPV;
            return toVirtual;
        }
    }

    /** All control registers by their numbers, as S sees them; IP and TIME show what stands outside. */
    private static final class Controls {
        static final int SOFTWARE = 1 << 1, TIMER = 1 << 5, EXTERNAL = 1 << 9;
        static final int HOST_INTERRUPTS = SOFTWARE | TIMER | EXTERNAL;

        final Outside outside;
        final Bank host;
        final Bank guest;
        final Hyper hyper;
        int hostIe;
        int hostSoftware;

        Controls() {
            outside = new Outside();
            host = new Bank();
            guest = new Bank();
            hyper = new Hyper();
        }

        void reset() {
            outside.reset();
            host.reset();
            guest.reset();
            hyper.reset();
            hostIe = 0;
            hostSoftware = 0;
        }

        /** 0 for a number that is none. */
        int read(int number) {
            if (Numbers.isOfS(number)) {
                return readHost(Numbers.kindOf(number));
            }
            if (Numbers.isOfVs(number)) {
                return readGuest(Numbers.kindOf(number));
            }
            switch (number) {
                case Numbers.TIME: return (int) outside.now;
                case Numbers.TIME_UPPER: return (int) (outside.now >>> 32);
                default: return hyper.read(number);
            }
        }

        int readHost(int kind) {
            switch (kind) {
                case Numbers.IE: return hostIe;
                case Numbers.IP: return hostIp();
                default: return host.read(kind);
            }
        }

        int readGuest(int kind) {
            switch (kind) {
                case Numbers.IE: return hyper.guestIe();
                case Numbers.IP: return hyper.guestIp();
                default: return guest.read(kind);
            }
        }

        void write(int number, int v) {
            if (Numbers.isOfS(number)) {
                writeHost(Numbers.kindOf(number), v);
            } else if (Numbers.isOfVs(number)) {
                writeGuest(Numbers.kindOf(number), v);
            } else {
                hyper.write(number, v);
            }
        }

        void writeHost(int kind, int v) {
            switch (kind) {
                case Numbers.IE: hostIe = v & HOST_INTERRUPTS; break;
                case Numbers.IP: hostSoftware = v & SOFTWARE; break;
                default: host.write(kind, v); break;
            }
        }

        void writeGuest(int kind, int v) {
            switch (kind) {
                case Numbers.IE: hyper.writeGuestIe(v); break;
                case Numbers.IP: hyper.writeGuestIp(v); break;
                default: guest.write(kind, v); break;
            }
        }

        int hostIp() {
            int timer = outside.alarmRings() ? TIMER : 0;
            int external = outside.lineOn ? EXTERNAL : 0;
            return hostSoftware | timer | external;
        }

        int waitingForS() {
            return hostIp() & hostIe | hyper.vip & hyper.ie & ~hyper.ideleg;
        }

        int waitingForVs() {
            return hyper.vip & hyper.ie & hyper.ideleg;
        }
    }
}
