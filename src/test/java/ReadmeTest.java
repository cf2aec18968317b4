import java.io.IOException;
import java.nio.file.Files;
import java.nio.file.Path;
import java.util.ArrayList;
import java.util.List;

/** The calls that README.md shows answer what it tells behind them, and it shows no others. */
public final class ReadmeTest {
    private static int wrong = 0;

    private record Row(String call, String answer) { }

    /** The rows of README.md's Java example that tell an answer, in their order. */
    private static List<Row> told() throws IOException {
        List<Row> rows = new ArrayList<>();
        boolean isExample = false;
        for (String line : Files.readAllLines(Path.of("README.md"))) {
            if (line.startsWith("```")) {
                isExample = line.equals("```java");
            } else if (isExample && line.contains("//")) {
                String[] parts = line.split("//", 2);
                rows.add(new Row(parts[0].trim(), parts[1].split(":", 2)[0].trim()));
            }
        }
        return rows;
    }

    /** The same calls, made here, each with what it answers now. */
    private static List<Row> made() {
        List<Row> rows = new ArrayList<>();
        MemberFinder finder = new MemberFinder();
        add(rows, "finder.newClass(MemberFinder.NONE, 1);", finder.newClass(MemberFinder.NONE, 1));
        add(rows, "finder.newClass(0, 2);", finder.newClass(0, 2));
        add(rows, "finder.below(1, 0);", finder.below(1, 0));
        add(rows, "finder.method(0, 3, 7, false, false, 2);", finder.method(0, 3, 7, false, false, 2));
        add(rows, "finder.method(1, 3, 7, false, false, 3);", finder.method(1, 3, 7, false, false, 3));
        add(rows, "finder.field(0, 5, false, true, 1);", finder.field(0, 5, false, true, 1));
        add(rows, "finder.maker(1, 7, 0);", finder.maker(1, 7, 0));
        add(rows, "finder.method(1, 3, 7, true, false, 3);", finder.method(1, 3, 7, true, false, 3));
        add(rows, "finder.refused();", finder.refused());
        add(rows, "finder.overrides(1, 0);", finder.overrides(1, 0));
        add(rows, "finder.called(0, 1);", finder.called(0, 1));
        add(rows, "finder.reaches(1, 2);", finder.reaches(1, 2));
        add(rows, "finder.find(0, 1, 3, 7, 1);", finder.find(0, 1, 3, 7, 1));
        add(rows, "finder.find(0, 1, 4, 7, 1);", finder.find(0, 1, 4, 7, 1));
        add(rows, "finder.refused();", finder.refused());
        add(rows, "finder.member(2, 4);", finder.member(2, 4));
        add(rows, "finder.seen(0, 1);", finder.seen(0, 1));
        return rows;
    }

    private static void add(List<Row> rows, String call, Object got) {
        rows.add(new Row(call, String.valueOf(got)));
    }

    private static void compare(List<Row> told, List<Row> made) {
        for (int i = 0; i < Math.max(told.size(), made.size()); i++) {
            Row due = i < told.size() ? told.get(i) : null;
            Row got = i < made.size() ? made.get(i) : null;
            if (due == null || !due.equals(got)) {
                wrong++;
                System.out.println("README.md tells " + due + ", the test made " + got);
            }
        }
    }

    public static void main(String[] args) throws IOException {
        compare(told(), made());
        System.out.println(wrong == 0 ? "README.md's example is as due" : wrong + " rows are not as due");
        if (wrong != 0) {
            System.exit(1);
        }
    }
}
