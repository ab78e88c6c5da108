import java.util.Map;

/**
 * The document once more, written for the eye and not for the rules of the language: what AgainstModelTest holds
 * the class against. It shares no line with the class and keeps its registers in one row by their numbers.
 */
final class Model {
    private static final int U = 0, S = 1, VU = 2, VS = 3;
    private static final int ALL = -1, GUEST = 0x444;
    private static final int SRET = -100;
    private static final Map<Integer, Integer> KEPT = Map.ofEntries(
            Map.entry(0x100, 0xc0122), Map.entry(0x200, 0xc0122), Map.entry(0x105, ~2), Map.entry(0x205, ~2),
            Map.entry(0x140, ALL), Map.entry(0x240, ALL), Map.entry(0x141, ~3), Map.entry(0x241, ~3),
            Map.entry(0x142, ALL), Map.entry(0x242, ALL), Map.entry(0x143, ALL), Map.entry(0x243, ALL),
            Map.entry(0x180, 0x803fffff), Map.entry(0x280, 0x803fffff), Map.entry(0x104, 0x222),
            Map.entry(0x600, 0x7003c0), Map.entry(0x602, 0xb1ff), Map.entry(0x603, GUEST), Map.entry(0x604, GUEST),
            Map.entry(0x643, ALL), Map.entry(0x645, GUEST), Map.entry(0x64a, ALL), Map.entry(0x680, 0x803ffffc),
            Map.entry(0x144, 2), Map.entry(0x204, 0), Map.entry(0x244, 0), Map.entry(0x644, 0),
            Map.entry(0xc01, 0), Map.entry(0xc81, 0));

    private final int[] row = new int[4096];
    private final int[] x = new int[32];
    private final StringBuilder printed = new StringBuilder();
    private int mode = S;
    private int pc;
    private long time;
    private long alarm = Long.MAX_VALUE;
    private boolean line;
    private boolean off;
    private int toS;
    private int toVs;
    private int interrupts;

    int mode(int m) {
        if ((m & ~3) != 0) {
            return -1;
        }
        int before = mode;
        mode = m;
        return before;
    }

    int go(int to) {
        if (to % 4 != 0) {
            return -1;
        }
        pc = to;
        return 0;
    }

    int put(int number, int v) {
        if (!KEPT.containsKey(number) || number >= 0xc00) {
            return -1;
        }
        write(number, v);
        return 0;
    }

    int get(int number) {
        return KEPT.containsKey(number) ? read(number) : 0;
    }

    long time(long t) {
        if (t < 0) {
            return -1;
        }
        long before = time;
        time = t;
        return before;
    }

    boolean line(boolean on) {
        boolean before = line;
        line = on;
        return before;
    }

    private static boolean isRegister(int n) {
        return n == 10 || n == 11 || n == 17;
    }

    int set(int n, int v) {
        int before = register(n);
        if (isRegister(n)) {
            x[n] = v;
        }
        return before;
    }

    int register(int n) {
        return isRegister(n) ? x[n] : 0;
    }

    int count(int which) {
        long[] all = {mode, pc, toS, toVs, interrupts, printed.length(), off ? 1 : 0, alarm, alarm >> 32};
        return which < 0 || which >= all.length ? -1 : (int) all[which];
    }

    int console(int i) {
        return i < 0 || i >= printed.length() ? -1 : printed.charAt(i);
    }

    private int read(int number) {
        switch (number) {
            case 0x144: return row[0x144] + (time >= alarm ? 32 : 0) + (line ? 512 : 0);
            case 0x644: return row[0x645];
            case 0x244: return (row[0x645] & row[0x603]) / 2;
            case 0x204: return (row[0x604] & row[0x603]) / 2;
            case 0xc01: return (int) time;
            case 0xc81: return (int) (time >> 32);
            default: return row[number];
        }
    }

    private void write(int number, int v) {
        switch (number) {
            case 0x644: copy(0x645, 4, v); break;
            case 0x244: copy(0x645, 4 & row[0x603], v * 2); break;
            case 0x204: copy(0x604, row[0x603], v * 2); break;
            default: row[number] = v & KEPT.get(number); break;
        }
    }

    private void copy(int number, int bits, int v) {
        for (int bit = 1; bit != 0; bit += bit) {
            if ((bits & bit) != 0) {
                row[number] = (v & bit) != 0 ? row[number] | bit : row[number] & ~bit;
            }
        }
    }

    private boolean has(int number, int bit) {
        return (row[number] >> bit & 1) == 1;
    }

    int doWord(int word) {
        if (off) {
            return -3;
        }
        int answer = outcome(word);
        if (answer >= 0) {
            int tval = answer == 2 || answer == 22 ? word : answer == 3 ? pc : 0;
            exception(answer, tval, false, 0, 0);
        } else if (answer == -1) {
            pc += 4;
        } else if (answer == SRET) {
            sret();
            answer = -1;
        }
        return answer;
    }

    private int outcome(int word) {
        int d = word >> 7 & 31, f = word >> 12 & 7, a = word >> 15 & 31, b = word >> 20 & 31, g = word >>> 25;
        int i = word >>> 20;
        if ((word & 127) != 115) {
            return 2;
        }
        if (f == 4) {
            return named(g, b, d) ? mode >= VU ? 22 : mode == U && !has(0x600, 9) ? 2 : -2 : 2;
        }
        if (f != 0) {
            return controlWord(i, a, f, d);
        }
        if (d != 0) {
            return 2;
        }
        if (g == 9) {
            return allowed(has(0x600, 20), -1);
        }
        if (g == 17 || g == 49) {
            return allowed(true, -1);
        }
        if (a != 0) {
            return 2;
        }
        return i == 0 ? ecall() : i == 1 ? 3 : i == 258 ? allowed(has(0x600, 22), SRET)
                : i == 261 ? allowed(has(0x600, 21), -1) : 2;
    }

    private static boolean named(int g, int b, int d) {
        String loads = " 48:0 50:0 52:0 48:1 50:1 50:3 52:3 ";
        return loads.contains(" " + g + ":" + b + " ") || d == 0 && " 49 51 53 ".contains(" " + g + " ");
    }

    private int allowed(boolean forbiddenInVs, int answer) {
        return mode == U ? 2 : mode == VU || mode == VS && forbiddenInVs ? 22 : answer;
    }

    private int controlWord(int number, int a, int f, int d) {
        boolean writes = f % 4 == 1 || a != 0;
        boolean isTime = number == 0xc01 || number == 0xc81;
        if (!KEPT.containsKey(number) || isTime && writes) {
            return 2;
        }
        if (!isTime && mode != S) {
            if (mode == U) {
                return 2;
            }
            if (mode == VU || number >= 0x200 || number == 0x180 && has(0x600, 20)) {
                return 22;
            }
        }
        int there = mode == VS && number < 0x200 ? number + 0x100 : number;
        int operand = f > 4 ? a : register(a);
        int before = read(there);
        if (writes) {
            write(there, f % 4 == 1 ? operand : f % 4 == 2 ? before | operand : before & ~operand);
        }
        set(d, before);
        return -1;
    }

    private int ecall() {
        if (mode != S) {
            return mode == VS ? 10 : 8;
        }
        int service = x[17];
        if (service == 0) {
            long told = x[11] * 0x100000000L + Integer.toUnsignedLong(x[10]);
            alarm = told < 0 ? Long.MAX_VALUE : told;
        } else if (service == 1 && printed.length() < 256) {
            printed.append((char) (x[10] & 255));
        } else if (service == 8) {
            off = true;
        }
        x[10] = service == 0 || service == 1 || service == 8 ? 0 : -2;
        return -1;
    }

    private void sret() {
        int bank = mode == VS ? 0x200 : 0x100;
        boolean virtual = mode == VS || has(0x600, 7);
        pc = row[bank + 0x41];
        int next = (has(bank, 8) ? 1 : 0) + (virtual ? 2 : 0);
        put(bank, 1, has(bank, 5));
        put(bank, 5, true);
        put(bank, 8, false);
        if (mode == S) {
            put(0x600, 7, false);
        }
        mode = next;
    }

    private void put(int number, int bit, boolean on) {
        copy(number, 1 << bit, on ? -1 : 0);
    }

    int fail(int exception, int value, boolean far, long second, boolean entry) {
        String known = " 0 1 4 5 6 7 12 13 15 20 21 23 ";
        if (!known.contains(" " + exception + " ") || second < 0 || second > 0x3ffffffffL) {
            return -1;
        }
        if (off) {
            return -3;
        }
        boolean counts = exception >= 20;
        exception(exception, value, far, counts ? second / 4 : 0, counts && entry ? 0x2000 : 0);
        return mode;
    }

    private void exception(int number, int tval, boolean far, long htval, int htinst) {
        boolean virtual = mode == VU || mode == VS;
        boolean address = number != 2 && number != 8 && number != 10 && number != 22;
        if (virtual && has(0x602, number)) {
            trap(0x200, number, tval, false);
            return;
        }
        hypervisorsPart(address && (virtual || far), (int) htval, htinst);
        trap(0x100, number, tval, false);
    }

    private void hypervisorsPart(boolean gva, int htval, int htinst) {
        put(0x600, 6, gva);
        put(0x600, 7, mode >= VU);
        if (mode >= VU) {
            put(0x600, 8, mode == VS);
        }
        row[0x643] = htval;
        row[0x64a] = htinst;
    }

    private void trap(int bank, int number, int tval, boolean interrupt) {
        row[bank + 0x41] = pc;
        row[bank + 0x42] = interrupt ? number + Integer.MIN_VALUE : number;
        row[bank + 0x43] = tval;
        put(bank, 5, has(bank, 1));
        put(bank, 1, false);
        put(bank, 8, mode % 2 == 1);
        pc = row[bank + 5] & -4;
        if (interrupt && has(bank + 5, 0)) {
            pc += 4 * number;
        }
        mode = bank == 0x100 ? S : VS;
        toS += bank == 0x100 ? 1 : 0;
        toVs += bank == 0x200 ? 1 : 0;
        interrupts += interrupt ? 1 : 0;
    }

    int interrupt() {
        if (off) {
            return -3;
        }
        int guest = row[0x645] & row[0x604];
        int forS = read(0x144) & row[0x104] | guest & ~row[0x603];
        int forVs = guest & row[0x603];
        if (mode != S || has(0x100, 1)) {
            for (int n : new int[] {9, 1, 5, 10, 2, 6}) {
                if ((forS >> n & 1) == 1) {
                    hypervisorsPart(false, 0, 0);
                    trap(0x100, n, 0, true);
                    return n;
                }
            }
        }
        if (mode == VU || mode == VS && has(0x200, 1)) {
            for (int n : new int[] {10, 2, 6}) {
                if ((forVs >> n & 1) == 1) {
                    trap(0x200, n - 1, 0, true);
                    return n + 99;
                }
            }
        }
        return -1;
    }
}
