import java.io.IOException;
import java.nio.file.Files;
import java.nio.file.Path;
import java.util.List;

/** The example of README.md, read from there: each call's answer stands beside it, before the colon. */
public final class ReadmeTest {
    private static final String FIRST = "LzwBox box = new LzwBox();";

    public static void main(String[] args) throws IOException {
        List<String> lines = Files.readAllLines(Path.of("README.md"));
        int at = lines.indexOf(FIRST);
        Check.same("the example is there", at >= 0, true);
        LzwBox box = new LzwBox();
        int calls = 0;
        for (int i = at + 1; i < lines.size() && lines.get(i).startsWith("box."); i++) {
            callOf(box, lines.get(i));
            calls++;
        }
        Check.same("calls of the example", calls, 7);
        Check.finish();
    }

    private static void callOf(LzwBox box, String line) {
        String call = line.substring("box.".length(), line.indexOf(';'));
        String want = line.substring(line.indexOf("// ") + 3, line.indexOf(':'));
        Check.due(call, () -> answer(box, call), number(want));
    }

    private static Object answer(LzwBox box, String call) {
        String name = call.substring(0, call.indexOf('('));
        String inside = call.substring(call.indexOf('(') + 1, call.indexOf(')'));
        int[] given = inside.isEmpty() ? new int[0] : numbers(inside.split(", "));
        return switch (name) {
            case "feed" -> box.feed(given[0], given[1], given[2], given[3], given[4]);
            case "end" -> box.end(given[0]);
            case "again" -> box.again();
            case "pack" -> box.pack(given[0]);
            case "unpack" -> box.unpack(given[0]);
            case "word" -> box.word(given[0]);
            default -> "no such call";
        };
    }

    private static long number(String text) {
        return text.startsWith("0x") ? Long.parseUnsignedLong(text.substring(2, text.length() - 1), 16) : Long.parseLong(text);
    }

    private static int[] numbers(String[] texts) {
        int[] made = new int[texts.length];
        for (int i = 0; i < made.length; i++) {
            made[i] = Integer.decode(texts[i]);
        }
        return made;
    }
}
