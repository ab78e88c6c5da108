import java.util.Random;

/** Calls by lot on the class and on the model of the document: every answer is the same, and all that can be seen. */
public final class AgainstModelTest {
    private static final Checks CHECKS = new Checks("AgainstModel");
    private static final int RUNS = 12000, CALLS = 240;
    private static final int[] NUMBERS = {0, 1, 2, 3, 4, 5, 8, 10, 17, 31, 0x22, 0x102, 0x122, 0x222, 0x444, 0x1001,
        0x2000, 0xb1ff, 0x700000, 0x7003c0, 0xc0122, -1, -2, -3, -4, Integer.MIN_VALUE, Integer.MAX_VALUE};
    private static final int[] REGISTERS = {10, 11, 17, 10, 11, 17, 0, 9, 31, -1};
    private static final int[] SERVICES = {0, 1, 1, 1, 9};
    private static final int[] EXCEPTIONS = {0, 1, 4, 5, 6, 7, 12, 13, 15, 20, 21, 23, 0, 13, 20, 2, 22, 24};
    private static final long[] TIMES = {0, 1, 4, 5, 0xffffffffL, 0x100000000L, 0x100000005L, 0x7fffffff00000000L,
        Long.MAX_VALUE - 1, Long.MAX_VALUE, -1};
    private static final long[] SECONDS = {0, 3, 4, 0x1234567cL, 0x2fedcba98L, (1L << 34) - 1, (1L << 34) - 4, 1L << 34,
        -1};
    private static final int[] WORDS = {Checks.ECALL, Checks.ECALL, Checks.EBREAK, Checks.SRET, Checks.SRET, Checks.WFI,
        Checks.word(9, 3, 4, 0, 0), Checks.word(17, 1, 2, 0, 0), Checks.word(49, 0, 0, 0, 0)};

    private final Random lot;
    private final TrapDesk real = new TrapDesk();
    private final Model model = new Model();

    private AgainstModelTest(long seed) {
        lot = new Random(seed);
    }

    public static void main(String[] args) {
        for (int run = 0; run < RUNS; run++) {
            new AgainstModelTest(run).run("run " + run);
        }
        CHECKS.finish();
    }

    private void run(String what) {
        for (int number : Checks.ALL_KNOWN) {
            if (lot.nextBoolean()) {
                int v = number();
                CHECKS.due(what + " put", real.put(number, v), model.put(number, v));
            }
        }
        for (int i = 0; i < CALLS; i++) {
            oneCall(what + " call " + i);
        }
        for (int number : Checks.ALL_KNOWN) {
            CHECKS.due(what + " get(" + number + ")", real.get(number), model.get(number));
        }
        for (int which = 0; which < 9; which++) {
            CHECKS.due(what + " count(" + which + ")", real.count(which), model.count(which));
        }
        for (int n : new int[] {10, 11, 17}) {
            CHECKS.due(what + " register(" + n + ")", real.register(n), model.register(n));
        }
        for (int i = 0; i < 30; i++) {
            CHECKS.due(what + " console(" + i + ")", real.console(i), model.console(i));
        }
    }

    private static int oneOf(Random lot, int[] row) {
        return row[lot.nextInt(row.length)];
    }

    private static long oneOf(Random lot, long[] row) {
        return row[lot.nextInt(row.length)];
    }

    private int number() {
        return lot.nextInt(4) == 0 ? lot.nextInt() : oneOf(lot, NUMBERS);
    }

    private int control() {
        return lot.nextInt(20) == 0 ? lot.nextInt(4200) - 50 : oneOf(lot, Checks.ALL_KNOWN);
    }

    private int word() {
        switch (lot.nextInt(6)) {
            case 0:
            case 1: return Checks.control(control() & 0xfff, oneOf(lot, REGISTERS) & 31, lot.nextInt(8),
                    oneOf(lot, REGISTERS) & 31);
            case 2: return Checks.word(46 + lot.nextInt(10), lot.nextInt(5), lot.nextInt(32), 4, lot.nextInt(2) * 11);
            case 3: return lot.nextInt(3) == 0 ? lot.nextInt() : oneOf(lot, WORDS) ^ 1 << lot.nextInt(32);
            default: return oneOf(lot, WORDS);
        }
    }

    private void oneCall(String what) {
        switch (lot.nextInt(13)) {
            case 0: sameMode(what); break;
            case 1: samePc(what); break;
            case 2: samePut(what); break;
            case 3: sameGet(what); break;
            case 4: sameTime(what); break;
            case 5: sameLine(what); break;
            case 6: sameSet(what); break;
            case 7:
            case 8: sameWord(what); break;
            case 9: sameFail(what); break;
            case 10: CHECKS.due(what + " interrupt()", real.interrupt(), model.interrupt()); break;
            case 11: sameFirmware(what); break;
            default: sameAnswers(what); break;
        }
    }

    private void sameMode(String what) {
        int m = lot.nextInt(30) == 0 ? number() : lot.nextInt(4);
        CHECKS.due(what + " mode(" + m + ")", real.mode(m), model.mode(m));
    }

    private void samePc(String what) {
        int pc = number();
        CHECKS.due(what + " go(" + pc + ")", real.go(pc), model.go(pc));
    }

    private void samePut(String what) {
        int number = control();
        int v = number();
        CHECKS.due(what + " put(" + number + ", " + v + ")", real.put(number, v), model.put(number, v));
    }

    private void sameGet(String what) {
        int number = control();
        CHECKS.due(what + " get(" + number + ")", real.get(number), model.get(number));
    }

    private void sameTime(String what) {
        long t = oneOf(lot, TIMES);
        CHECKS.due(what + " time(" + t + ")", real.time(t), model.time(t));
    }

    private void sameLine(String what) {
        boolean on = lot.nextBoolean();
        CHECKS.due(what + " line(" + on + ")", real.line(on), model.line(on));
    }

    private void sameSet(String what) {
        int n = oneOf(lot, REGISTERS);
        int v = n == 17 ? oneOf(lot, SERVICES) : number();
        CHECKS.due(what + " set(" + n + ", " + v + ")", real.set(n, v), model.set(n, v));
    }

    private void sameWord(String what) {
        int word = word();
        CHECKS.due(what + " doWord(" + word + ")", real.doWord(word), model.doWord(word));
    }

    private void sameFail(String what) {
        int exception = oneOf(lot, EXCEPTIONS);
        int value = number();
        boolean far = lot.nextBoolean();
        long second = oneOf(lot, SECONDS);
        boolean entry = lot.nextBoolean();
        CHECKS.due(what + " fail(" + exception + ", " + value + ", " + far + ", " + second + ", " + entry + ")",
                real.fail(exception, value, far, second, entry), model.fail(exception, value, far, second, entry));
    }

    /** Off but seldom: a run that is off has little more to tell. */
    private void sameFirmware(String what) {
        int service = lot.nextInt(100) == 0 ? 8 : oneOf(lot, SERVICES);
        CHECKS.due(what + " set(17, " + service + ")", real.set(17, service), model.set(17, service));
        CHECKS.due(what + " ecall", real.doWord(Checks.ECALL), model.doWord(Checks.ECALL));
    }

    private void sameAnswers(String what) {
        int n = lot.nextInt(14) - 2;
        CHECKS.due(what + " count(" + n + ")", real.count(n), model.count(n));
        CHECKS.due(what + " register(" + n + ")", real.register(n), model.register(n));
        CHECKS.due(what + " console(" + n + ")", real.console(n), model.console(n));
    }
}
