import java.io.IOException;
import java.nio.file.Files;
import java.nio.file.Path;
import java.util.TreeSet;

/**
 * What the tests of boundary cases share: each test names a promise and the sentence of the document
 * that it holds the class to, and every fault is printed with both.
 */
abstract class Bounds {
    private static final Path DOCUMENT = Path.of("../shared/DOC.md");

    private static int faults = 0;
    private static int sentences = 0;
    private static int promise = 0;
    private static String sentence = "";
    private static String document = null;
    private static final TreeSet<Integer> PROMISES = new TreeSet<>();

    /** What follows is the test of this sentence of the document, which must stand there word by word. */
    static void promise(int number, String words) {
        promise = number;
        sentence = words;
        sentences++;
        PROMISES.add(number);
        if (document == null) {
            document = readDocument();
        }
        if (!document.isEmpty() && !document.contains(words)) {
            fault("the document has no such sentence");
        }
    }

    static void fault(String what) {
        faults++;
        System.out.println("promise " + promise + ", \"" + sentence + "\": " + what);
    }

    /** Each of the promises had a test; ends with exit code 1 if there was a fault. */
    static void end(int firstPromise, int lastPromise) {
        for (int p = firstPromise; p <= lastPromise; p++) {
            if (!PROMISES.contains(p)) {
                promise = p;
                sentence = "";
                fault("there is no test");
            }
        }
        end();
    }

    static void end() {
        System.out.println(faults == 0 ? sentences + " sentences hold" : faults + " faults in " + sentences + " sentences");
        if (faults != 0) {
            System.exit(1);
        }
    }

    private static String readDocument() {
        try {
            return Files.readString(DOCUMENT).replaceAll("\\s+", " ");
        } catch (IOException e) {
            System.out.println(DOCUMENT + " can't be read: whether the sentences stand there is not looked at");
            return "";
        }
    }
}
