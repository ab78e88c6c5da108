/** Promise 11, the firmware, with promises 14 and 15: count and console. */
public final class FirmwareTest {
    private static final Checks CHECKS = new Checks("Firmware");

    public static void main(String[] args) {
        alarms();
        bytes();
        fullConsole();
        otherServices();
        onlyInS();
        counts();
        CHECKS.finish();
    }

    private static int call(TrapDesk x, int x17, int x10, int x11) {
        x.set(17, x17);
        x.set(10, x10);
        x.set(11, x11);
        return x.doWord(Checks.ECALL);
    }

    private static void alarm(TrapDesk x, int low, int high, int wantLow, int wantHigh) {
        CHECKS.due("alarm", call(x, 0, low, high), TrapDesk.DONE);
        CHECKS.due("lower word of " + high + ":" + low, x.count(7), wantLow);
        CHECKS.due("upper word of " + high + ":" + low, x.count(8), wantHigh);
        CHECKS.due("x10 behind it", x.register(10), 0);
        CHECKS.due("x11 behind it", x.register(11), high);
        CHECKS.due("x17 behind it", x.register(17), 0);
    }

    private static void alarms() {
        TrapDesk x = new TrapDesk();
        alarm(x, 5, 0, 5, 0);
        alarm(x, -1, 0, -1, 0);
        alarm(x, 0x80000000, 1, 0x80000000, 1);
        alarm(x, 3, 0x80000000, -1, 0x7fffffff);
        alarm(x, 3, -1, -1, 0x7fffffff);
        alarm(x, 3, 0x7fffffff, 3, 0x7fffffff);
        alarm(x, -1, 0x7fffffff, -1, 0x7fffffff);
        alarm(x, 0, 0, 0, 0);
        CHECKS.due("an alarm of 0 rings at once", x.get(Checks.SIP), 32);
        alarm(x, -1, 0, -1, 0);
        x.time(0xfffffffeL);
        CHECKS.due("the lower word is unsigned", x.get(Checks.SIP), 0);
        x.time(0xffffffffL);
        CHECKS.due("it rings", x.get(Checks.SIP), 32);
        CHECKS.due("the PC", x.count(1), 36);
    }

    private static void bytes() {
        TrapDesk x = new TrapDesk();
        int[] values = {0, 65, 127, 128, 255, 256, -1, 0x12345678, Integer.MIN_VALUE};
        for (int i = 0; i < values.length; i++) {
            CHECKS.due("console before", x.console(i), TrapDesk.BAD);
            CHECKS.due("print", call(x, 1, values[i], 7), TrapDesk.DONE);
            CHECKS.due("console(" + i + ")", x.console(i), values[i] & 255);
            CHECKS.due("bytes", x.count(5), i + 1);
            CHECKS.due("x10", x.register(10), 0);
        }
        for (int i : new int[] {-1, values.length, 255, 256, Integer.MAX_VALUE, Integer.MIN_VALUE}) {
            CHECKS.due("console(" + i + ")", x.console(i), TrapDesk.BAD);
        }
        CHECKS.due("the alarm stays", x.count(7), -1);
    }

    /** Few calls beside the printing: an object is used for 512 calls at most. */
    private static void fullConsole() {
        TrapDesk x = new TrapDesk();
        x.set(17, 1);
        for (int i = 0; i < 256; i++) {
            if (i % 3 == 0 || i > 250) {
                x.set(10, 255 - i);
            }
            x.doWord(Checks.ECALL);
        }
        CHECKS.due("bytes of a full console", x.count(5), 256);
        x.set(10, 99);
        CHECKS.due("print when full", x.doWord(Checks.ECALL), TrapDesk.DONE);
        CHECKS.due("x10 when full", x.register(10), 0);
        CHECKS.due("bytes still", x.count(5), 256);
        for (int i = 0; i < 256; i += i < 248 ? 4 : 1) {
            CHECKS.due("full console(" + i + ")", x.console(i), i % 3 == 0 || i > 250 ? 255 - i : 0);
        }
        CHECKS.due("console(256)", x.console(256), TrapDesk.BAD);
        CHECKS.due("the PC", x.count(1), 257 * 4);
    }

    private static void otherServices() {
        TrapDesk x = new TrapDesk();
        for (int service : new int[] {2, 3, 4, 5, 6, 7, 9, 16, -1, 256, Integer.MIN_VALUE, Integer.MAX_VALUE}) {
            int before = x.count(1);
            CHECKS.due("service " + service, call(x, service, 65, 1), TrapDesk.DONE);
            CHECKS.due("x10 of " + service, x.register(10), -2);
            CHECKS.due("x11 of " + service, x.register(11), 1);
            CHECKS.due("the PC of " + service, x.count(1), before + 4);
        }
        CHECKS.due("nothing printed", x.count(5), 0);
        CHECKS.due("not off", x.count(6), 0);
        CHECKS.due("alarm", x.count(8), 0x7fffffff);
        CHECKS.due("no trap", x.count(2), 0);
    }

    private static void onlyInS() {
        for (int m : new int[] {Checks.U, Checks.VU, Checks.VS}) {
            TrapDesk x = Checks.in(m);
            CHECKS.due("call in " + m, call(x, 8, 65, 1), m == Checks.VS ? 10 : 8);
            CHECKS.due("not off in " + m, x.count(6), 0);
            CHECKS.due("x10 in " + m, x.register(10), 65);
        }
    }

    private static void counts() {
        TrapDesk x = Checks.in(Checks.VU);
        x.put(Checks.HEDELEG, 1 << 13);
        x.put(Checks.SIE, 0x222);
        x.put(Checks.SIP, 2);
        x.fail(13, 0, false, 0, false);
        x.fail(13, 0, false, 0, false);
        x.fail(12, 0, false, 0, false);
        x.mode(Checks.VU);
        x.interrupt();
        x.put(Checks.HIDELEG, 0x444);
        x.put(Checks.HVIP, 0x444);
        x.put(Checks.HIE, 0x444);
        x.put(Checks.SIP, 0);
        x.mode(Checks.VU);
        x.interrupt();
        CHECKS.due("the mode", x.count(0), Checks.VS);
        CHECKS.due("the PC", x.count(1), 0x2000);
        CHECKS.due("traps to S", x.count(2), 2);
        CHECKS.due("traps to VS", x.count(3), 3);
        CHECKS.due("interrupts", x.count(4), 2);
        x.mode(Checks.S);
        CHECKS.due("not off", x.count(6), 0);
        call(x, 8, 0, 0);
        CHECKS.due("off", x.count(6), 1);
        for (int which : new int[] {-1, 9, 10, 100, Integer.MIN_VALUE, Integer.MAX_VALUE}) {
            CHECKS.due("count(" + which + ")", x.count(which), TrapDesk.BAD);
        }
    }
}
