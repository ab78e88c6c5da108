/** The edges of the firmware: alarm, console, off, and what it does not know. */
public final class EdgesOfFirmwareTest {
    private static final Checks CHECKS = new Checks("EdgesOfFirmware");

    public static void main(String[] args) {
        theFirstAlarm();
        anAlarmWithBit63();
        theLastAlarmsWithoutBit63();
        theAlarmIsUnsignedByItsParts();
        theLowestByte();
        theLastByteOfTheConsole();
        moreThan256BytesAreLost();
        offBehindThisStep();
        anotherService();
        othersWorkWhenOff();
        CHECKS.finish();
    }

    private static void served(TrapDesk x, State due, String what) {
        due.onByOneWord();
        CHECKS.due(what, x.doWord(Checks.ECALL), TrapDesk.DONE);
        CHECKS.due(what, x, due);
    }

    private static TrapDesk busy(int x17, int x10, int x11) {
        TrapDesk x = Checks.busy(Checks.S);
        x.set(17, x17);
        x.set(10, x10);
        x.set(11, x11);
        return x;
    }

    private static void theFirstAlarm() {
        CHECKS.about("the ALARM: 2^63 - 1 at first");
        TrapDesk x = new TrapDesk();
        CHECKS.due("its lower word", x.count(7), -1);
        CHECKS.due("its upper word", x.count(8), Integer.MAX_VALUE);
        x.time(Long.MAX_VALUE - 1);
        CHECKS.due("below it", x.get(Checks.SIP), 0);
        x.time(Long.MAX_VALUE);
        CHECKS.due("not below it", x.get(Checks.SIP), 32);
    }

    private static void alarm(int low, int high, int wantLow, int wantHigh, boolean rings) {
        TrapDesk x = busy(0, low, high);
        State due = State.of(x).register(10, 0).count(7, wantLow).count(8, wantHigh);
        due.control(Checks.SIP, 1 << 1 | 1 << 9 | (rings ? 1 << 5 : 0));
        served(x, due, "alarm " + high + ":" + low);
    }

    private static void anAlarmWithBit63() {
        CHECKS.about("what has bit 63 set counts as that (2^63 - 1)");
        for (int low : new int[] {0, 1, 5, -1, Integer.MIN_VALUE, Integer.MAX_VALUE}) {
            for (int high : new int[] {-1, -2, Integer.MIN_VALUE, Integer.MIN_VALUE + 1, 0x80000003}) {
                alarm(low, high, -1, Integer.MAX_VALUE, false);
            }
        }
        TrapDesk x = new TrapDesk();
        Checks.firmware(x, 0, 0, Integer.MIN_VALUE);
        x.time(Long.MAX_VALUE - 1);
        CHECKS.due("bit 63: below it", x.get(Checks.SIP), 0);
        x.time(Long.MAX_VALUE);
        CHECKS.due("bit 63: not below it", x.get(Checks.SIP), 32);
    }

    private static void theLastAlarmsWithoutBit63() {
        CHECKS.about("the ALARM is x10 and 2^32 x11 (U, 64 bits)");
        alarm(-1, Integer.MAX_VALUE, -1, Integer.MAX_VALUE, false);
        alarm(-2, Integer.MAX_VALUE, -2, Integer.MAX_VALUE, false);
        alarm(0, Integer.MAX_VALUE, 0, Integer.MAX_VALUE, false);
        alarm(0, 0, 0, 0, true);
        alarm(4, 3, 4, 3, true);
        alarm(5, 3, 5, 3, true);
        alarm(6, 3, 6, 3, false);
    }

    private static void theAlarmIsUnsignedByItsParts() {
        CHECKS.about("the ALARM is x10 and 2^32 x11 (U, 64 bits)");
        alarm(-1, 2, -1, 2, true);
        alarm(-1, 3, -1, 3, false);
        alarm(Integer.MIN_VALUE, 3, Integer.MIN_VALUE, 3, false);
        alarm(Integer.MIN_VALUE, 2, Integer.MIN_VALUE, 2, true);
        alarm(-1, 0, -1, 0, true);
        alarm(0, 4, 0, 4, false);
    }

    private static void theLowestByte() {
        CHECKS.about("1: the lowest byte of x10 goes to the CONSOLE; x10 becomes 0");
        for (int v : new int[] {0, 1, 127, 128, 255, 256, 0x1ff, -1, -256, Integer.MIN_VALUE, Integer.MAX_VALUE}) {
            TrapDesk x = busy(1, v, 9);
            served(x, State.of(x).register(10, 0).printed(2, v & 255), "print " + v);
        }
    }

    private static TrapDesk printed(int n) {
        TrapDesk x = new TrapDesk();
        x.set(17, 1);
        for (int i = 0; i < n; i++) {
            if (i == 0 || i >= 254) {
                x.set(10, i == 0 ? 200 : i - 200);
            }
            x.doWord(Checks.ECALL);
        }
        return x;
    }

    private static void theLastByteOfTheConsole() {
        CHECKS.about("the CONSOLE (of 256 bytes); console: BAD: there is none");
        TrapDesk x = printed(255);
        CHECKS.due("bytes", x.count(5), 255);
        CHECKS.due("console(254)", x.console(254), 54);
        CHECKS.due("console(255) before it is printed", x.console(255), TrapDesk.BAD);
        x.set(10, 77);
        CHECKS.due("print the last one", x.doWord(Checks.ECALL), TrapDesk.DONE);
        CHECKS.due("bytes", x.count(5), 256);
        CHECKS.due("console(0)", x.console(0), 200);
        CHECKS.due("console(255)", x.console(255), 77);
        for (int i : new int[] {256, 257, 512, -1, -256, Integer.MIN_VALUE, Integer.MAX_VALUE}) {
            CHECKS.due("full console(" + i + ")", x.console(i), TrapDesk.BAD);
        }
    }

    private static void moreThan256BytesAreLost() {
        CHECKS.about("the CONSOLE (of 256 bytes; more are lost)");
        TrapDesk x = printed(256);
        for (int i = 0; i < 2; i++) {
            x.set(10, 99);
            State due = State.of(x).register(10, 0);
            served(x, due, "print to a full console");
        }
        CHECKS.due("the first one", x.console(0), 200);
        CHECKS.due("the last one", x.console(255), 55);
        CHECKS.due("none behind it", x.console(256), TrapDesk.BAD);
    }

    private static void offBehindThisStep() {
        CHECKS.about("8: the machine is OFF behind this step; x10 becomes 0");
        TrapDesk x = busy(8, 5, 9);
        served(x, State.of(x).register(10, 0).count(6, 1), "off");
        CHECKS.refused("once more", x, State.of(x), x.doWord(Checks.ECALL), TrapDesk.OFF);
    }

    private static void anotherService() {
        CHECKS.about("x10 becomes 0, for another x17 -2");
        for (int x17 : new int[] {2, 3, 4, 5, 6, 7, 9, 10, 16, -1, -8, 0x100, 0x101, 0x108, 0x10000, 0x80000000,
            0x80000001, 0x80000008, Integer.MAX_VALUE}) {
            TrapDesk x = busy(x17, 65, 0);
            served(x, State.of(x).register(10, -2), "service " + x17);
        }
    }

    private static void othersWorkWhenOff() {
        CHECKS.about("OFF: only doWord, fail and interrupt have this answer");
        TrapDesk x = Checks.busyAndOff(Checks.S);
        State due = State.of(x);
        CHECKS.due("mode", x.mode(Checks.VU), Checks.S);
        CHECKS.due("go", x.go(0x80), 0);
        CHECKS.due("put", x.put(Checks.SSCRATCH, 7), 0);
        CHECKS.due("get", x.get(Checks.SSCRATCH), 7);
        CHECKS.due("time", x.time(1), 0x300000005L);
        CHECKS.due("line", x.line(false), true);
        CHECKS.due("set", x.set(11, 8), -7);
        CHECKS.due("register", x.register(11), 8);
        CHECKS.due("console", x.console(1), 0xf0);
        due.mode(Checks.VU).pc(0x80).control(Checks.SSCRATCH, 7).control(Checks.TIME, 1).control(Checks.TIMEH, 0);
        due.control(Checks.SIP, 1 << 1).register(11, 8);
        CHECKS.due("all of it", x, due);
        CHECKS.due("mode that is none", x.mode(4), TrapDesk.BAD);
        CHECKS.due("go that is none", x.go(2), TrapDesk.BAD);
        CHECKS.due("put that is none", x.put(0, 2), TrapDesk.BAD);
        CHECKS.due("time that is none", x.time(-1), TrapDesk.BAD);
        CHECKS.due("all of it still", x, due);
    }
}
