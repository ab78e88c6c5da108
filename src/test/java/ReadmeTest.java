import java.io.File;
import java.io.IOException;
import java.lang.reflect.Field;
import java.lang.reflect.Method;
import java.lang.reflect.Modifier;
import java.nio.file.Files;
import java.nio.file.Path;

/** README.md: its example answers what it says there, and it names every call, constant and test. */
public final class ReadmeTest {
    private static final Checks CHECKS = new Checks("Readme");

    public static void main(String[] args) throws IOException {
        String readme = Files.readString(Path.of("README.md"));
        example(readme);
        off();
        calls(readme);
        tests(readme);
        CHECKS.finish();
    }

    private static void example(String readme) {
        TrapDesk desk = new TrapDesk();
        step(readme, "put(0x105, 0x1000)", desk.put(0x105, 0x1000), 0);
        step(readme, "mode(2)", desk.mode(2), 1);
        step(readme, "go(0x40)", desk.go(0x40), 0);
        step(readme, "doWord(115)", desk.doWord(115), 8);
        step(readme, "count(0)", desk.count(0), 1);
        step(readme, "count(1)", desk.count(1), 0x1000);
        step(readme, "get(0x141)", desk.get(0x141), 0x40);
        step(readme, "doWord(258 << 20 | 115)", desk.doWord(258 << 20 | 115), TrapDesk.DONE);
        CHECKS.due("back in VU", desk.count(0), 2);
        CHECKS.due("at 0x40", desk.count(1), 0x40);
    }

    private static void step(String readme, String call, long got, long want) {
        named(readme, "desk." + call + ";");
        CHECKS.due(call, got, want);
    }

    private static void off() {
        TrapDesk desk = new TrapDesk();
        desk.set(17, 8);
        CHECKS.due("an ecall in S with x17 = 8", desk.doWord(115), TrapDesk.DONE);
        CHECKS.due("doWord", desk.doWord(115), TrapDesk.OFF);
        CHECKS.due("fail", desk.fail(5, 0, false, 0, false), TrapDesk.OFF);
        CHECKS.due("interrupt", desk.interrupt(), TrapDesk.OFF);
        CHECKS.due("the other calls work on", desk.mode(2), 1);
        desk.begin();
        CHECKS.due("begin() switches it on again", desk.doWord(115), TrapDesk.DONE);
    }

    private static void calls(String readme) {
        for (Method method : TrapDesk.class.getDeclaredMethods()) {
            if (Modifier.isPublic(method.getModifiers())) {
                named(readme, "| `" + method.getName() + "(");
            }
        }
        for (Field field : TrapDesk.class.getDeclaredFields()) {
            if (Modifier.isPublic(field.getModifiers())) {
                named(readme, "`" + field.getName() + "`");
            }
        }
    }

    private static void tests(String readme) {
        named(readme, ".ci/run");
        String[] files = new File("src/test/java").list((directory, name) -> name.endsWith(".java"));
        CHECKS.due("src/test/java is found", files != null, true);
        if (files == null) {
            return;
        }
        for (String file : files) {
            named(readme, "`" + file.replace(".java", "") + "`");
        }
    }

    private static void named(String readme, String words) {
        CHECKS.due("README.md names " + words, readme.contains(words), true);
    }
}
