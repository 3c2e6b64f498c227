import java.io.IOException;
import java.nio.charset.StandardCharsets;
import java.nio.file.Files;
import java.nio.file.Path;

/** What all tests share: answers that are due, and texts fed to a town. */
final class Due {
    private static final Path DOCUMENT = Path.of("../shared/DOC.md");
    private static final String DOCUMENT_TEXT = documentText();
    private static int checks = 0;
    private static int wrong = 0;
    private static String words = "";

    private Due() { }

    private static String documentText() {
        try {
            return Files.isReadable(DOCUMENT) ? plain(Files.readString(DOCUMENT)) : "";
        } catch (IOException e) {
            return "";
        }
    }

    private static String plain(String text) {
        return text.replaceAll("\\s+", " ");
    }

    /** The words of the document that the checks from here on are for; what they quote must stand there. */
    static void words(String quoted) {
        words = "\"" + quoted + "\": ";
        if (!DOCUMENT_TEXT.isEmpty()) {
            is("stands in the document", DOCUMENT_TEXT.contains(plain(quoted)) ? 1 : 0, 1);
        }
    }

    static void is(String call, long got, long want) {
        checks++;
        if (got != want) {
            wrong++;
            System.out.println(words + call + " answered " + got + ", due is " + want);
        }
    }

    static void same(String call, String got, String want) {
        checks++;
        if (!got.equals(want)) {
            wrong++;
            System.out.println(words + call + " shows\n  " + got + "\n, due is\n  " + want);
        }
    }

    static void leave() {
        System.out.println(checks + " answers, " + wrong + " not as due");
        if (wrong != 0) {
            System.exit(1);
        }
    }

    /** Puts a text on the tape in place of what stands there. */
    static void tape(LureTown x, String text) {
        x.end(0);
        byte[] bytes = text.getBytes(StandardCharsets.ISO_8859_1);
        for (int i = 0; i < bytes.length; i += 20) {
            x.feed(four(bytes, i), four(bytes, i + 4), four(bytes, i + 8), four(bytes, i + 12), four(bytes, i + 16));
        }
        x.end(bytes.length);
    }

    private static int four(byte[] bytes, int from) {
        int number = 0;
        for (int i = from; i < from + 4; i++) {
            number = number << 8 | (i < bytes.length ? bytes[i] & 255 : 0);
        }
        return number;
    }

    static int town(LureTown x, String text) {
        tape(x, text);
        return x.town();
    }

    static int rule(LureTown x, String text) {
        tape(x, text);
        return x.rule();
    }

    /** What town and rule answer for a fault of a sort at a place. */
    static int fault(int place, int sort) {
        return -2 - (1 + 8 * place + sort);
    }

    static LureTown townOf(String text) {
        LureTown x = new LureTown();
        town(x, text);
        return x;
    }

    static void townFault(String text, int place, int sort) {
        LureTown x = new LureTown();
        is("town of '" + text + "'", town(x, text), fault(place, sort));
        is("the tape behind a fault of '" + text + "'", x.count(13), text.length());
        is("corners behind a fault of '" + text + "'", x.count(0), 0);
    }

    static void ruleFault(String text, int place, int sort) {
        LureTown x = new LureTown();
        is("rule of '" + text + "'", rule(x, text), fault(place, sort));
        is("the tape behind a fault of '" + text + "'", x.count(13), 0);
        is("rules behind a fault of '" + text + "'", x.count(4), 0);
    }
}
