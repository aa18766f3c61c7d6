import java.io.IOException;
import java.nio.file.Files;
import java.nio.file.Path;
import java.util.regex.Pattern;

/** README.md shows calls with their answers: each stands there, and is true; run from the project's folder. */
public final class ReadmeTest {
    private static String readme;

    public static void main(String[] args) throws IOException {
        readme = Files.readString(Path.of("README.md"));
        shownCallsAnswerSo();
        everyTestIsNamed();
        Check.end();
    }

    private static void line(String call, Object got, Object due) {
        Check.isTrue(call + " answered " + got + ", due is " + due, got.equals(due));
        Pattern shown = Pattern.compile("(?m)^" + Pattern.quote("kernel." + call + ";") + " +// " + due + "(:|$)");
        Check.isTrue("README.md shows " + call + " with " + due, shown.matcher(readme).find());
    }

    private static void shownCallsAnswerSo() {
        BudgetKernel kernel = new BudgetKernel();
        kernel.source(0, 1, 3, 20, 2, 10, 5);
        kernel.source(1, 0, 2, 30, 4, 15, 9);
        line("base(0, 60, 10, 3)", kernel.base(0, 60, 10, 3), true);
        line("base(1, 20, 15, 4)", kernel.base(1, 20, 15, 4), false);
        line("event(0)", kernel.event(0), 1);
        line("tick()", kernel.tick(), 10);
        line("tick()", kernel.tick(), 20);
        line("tick()", kernel.tick(), 20);
        line("tick()", kernel.tick(), 30);
        line("ticks(100)", kernel.ticks(100), 20);
        line("about(0, 1)", kernel.about(0, 1), 1);
        line("about(0, 10)", kernel.about(0, 10), 11);
        line("task(0, 2)", kernel.task(0, 2), 2);
        line("task(0, 3)", kernel.task(0, 3), 39);
        line("bound(0)", kernel.bound(0), -1);
        line("bound(1)", kernel.bound(1), 4);
        line("used(0, false, 0, 50)", kernel.used(0, false, 0, 50), 3);
        line("used(0, true, 0, 50)", kernel.used(0, true, 0, 50), 4);
        line("floor(100)", kernel.floor(100), 40);
        line("time()", kernel.time(), 104);
    }

    private static void everyTestIsNamed() throws IOException {
        try (var files = Files.list(Path.of("src", "test", "java"))) {
            files.map(file -> file.getFileName().toString().replace(".java", ""))
                    .forEach(name -> Check.isTrue("README.md names " + name, readme.contains("`" + name + "`")));
        }
    }
}
