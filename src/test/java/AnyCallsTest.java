import java.util.Random;

/**
 * Any calls in any order: none throws, what always holds holds, and an object that has been used and
 * begun again answers as a new one.
 */
public final class AnyCallsTest {
    private static final Checks CHECKS = new Checks("AnyCalls");
    private static final int RUNS = 3000, CALLS = 240;
    private static final int[] NUMBERS = {0, 1, 2, 4, 8, 10, 11, 17, 0x444, 0x222, 0xb1ff, -1, -4, 3, 32, 0x1001,
        Integer.MIN_VALUE, Integer.MAX_VALUE};
    private static final long[] LONGS = {0, 1, 9, 10, 11, 1L << 33, (1L << 34) - 1, 1L << 34, -1, Long.MIN_VALUE,
        Long.MAX_VALUE};
    private static final int[] PLAIN_WORDS = {Checks.ECALL, Checks.EBREAK, Checks.SRET, Checks.WFI,
        Checks.word(9, 1, 2, 0, 0), Checks.word(17, 3, 4, 0, 0), Checks.word(49, 0, 0, 0, 0)};

    private final Random random;

    private AnyCallsTest(long seed) {
        random = new Random(seed);
    }

    public static void main(String[] args) {
        for (int run = 0; run < RUNS; run++) {
            TrapDesk used = new TrapDesk();
            new AnyCallsTest(-1 - run).callsOn(used);
            used.begin();
            long again = new AnyCallsTest(run).callsOn(used);
            CHECKS.due("run " + run + " behind begin", again, new AnyCallsTest(run).callsOn(new TrapDesk()));
        }
        CHECKS.finish();
    }

    /** What all the calls answered, folded into one number. */
    private long callsOn(TrapDesk x) {
        long all = 0;
        for (int i = 0; i < CALLS; i += 3) {
            all = all * 31 + oneCall(x);
            int mode = x.count(0);
            int pc = x.count(1);
            CHECKS.due("there is such a mode", mode >= 0 && mode <= 3, true);
            CHECKS.due("the PC is a multiple of 4", pc & 3, 0);
            all = all * 31 * 31 + mode * 31L + pc;
        }
        return all;
    }

    private long oneCall(TrapDesk x) {
        switch (random.nextInt(17)) {
            case 0: return x.mode(random.nextInt(6) - 1);
            case 1: return x.go(number());
            case 2:
            case 3: return x.put(controlNumber(), number());
            case 4:
            case 5: return x.get(controlNumber());
            case 6: return x.time(LONGS[random.nextInt(LONGS.length)]);
            case 7: return x.line(random.nextBoolean()) ? 1 : 0;
            case 8: return x.set(number(), number());
            case 9: return x.register(number());
            case 10: return x.doWord(random.nextInt());
            case 11: return x.doWord(PLAIN_WORDS[random.nextInt(PLAIN_WORDS.length)]);
            case 12: return x.doWord(Checks.control(controlNumber() & 0xfff, random.nextInt(32), random.nextInt(8),
                    10));
            case 13: return x.fail(random.nextInt(26) - 1, number(), random.nextBoolean(),
                    LONGS[random.nextInt(LONGS.length)], random.nextBoolean());
            case 14: return x.interrupt();
            case 15: return x.count(number());
            default: return x.console(number());
        }
    }

    private int number() {
        return random.nextInt(4) == 0 ? random.nextInt() : NUMBERS[random.nextInt(NUMBERS.length)];
    }

    private int controlNumber() {
        return random.nextInt(5) == 0 ? number() : Checks.ALL_KNOWN[random.nextInt(Checks.ALL_KNOWN.length)];
    }
}
