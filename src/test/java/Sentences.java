import java.io.IOException;
import java.nio.charset.StandardCharsets;
import java.nio.file.Files;
import java.nio.file.Path;
import java.util.Set;
import java.util.TreeSet;
import java.util.function.IntSupplier;
import java.util.regex.Matcher;
import java.util.regex.Pattern;

/**
 * The sentences of the document that name a boundary case, each with the test that holds it: what differs is printed
 * with the promise and the sentence, and a boundary that no test names is a fault of the tests.
 */
final class Sentences {
    static final int BAD = -1, NO = -2, FULL = -3, NONE = -4;

    /** What a boundary is told by, in the document's own words. */
    private static final Pattern BOUNDARY = Pattern.compile("\\d+ to \\d+|at most|at least|however far|or nearer|or farther"
        + "|or less|or more|one or two figures|without|of several|the lowest|the first|first ITEM|for the first time|soonest"
        + "|in lowest terms|beyond|above 999|off THE FIELD|taken away|not at all|nowhere|stands there|it has that|, too\\b"
        + "|other than|\\bmodulo\\b|\\bcut\\b|nothing changes|empty|later calls|\\b(?:BAD|NO|FULL|NONE|none)\\b");

    private final Due due = new Due("EdgesTest");
    private final String document;
    private final boolean[] named;
    private final Set<String> refusals = new TreeSet<>();
    private int promise;
    private String words = "";
    private int held;
    private int duesOfThis;

    Sentences(Path file) throws IOException {
        document = Files.readString(file, StandardCharsets.UTF_8).replaceAll("\\s+", " ");
        named = new boolean[document.length()];
    }

    /** What is due from now on holds this sentence of the document, which promises it there. */
    void sentence(int ofPromise, String itsWords) {
        somethingIsDueOfTheLast();
        promise = ofPromise;
        words = itsWords;
        held++;
        duesOfThis = 0;
        int at = document.indexOf(words);
        if (at < 0 || document.indexOf(words, at + 1) >= 0) {
            due("stands once in the document", 1, at < 0 ? 0 : 2);
            return;
        }
        for (int i = at; i < at + words.length(); i++) {
            named[i] = true;
        }
    }

    private void somethingIsDueOfTheLast() {
        if (held > 0 && duesOfThis == 0) {
            due("something is due", 1, 0);
        }
    }

    void due(String call, long want, long got) {
        duesOfThis++;
        if (want < 0) {
            refusals.add(promise + " " + want);
        }
        due.due("promise " + promise + ", \"" + words + "\": " + call, want, got);
    }

    /** A new object with this text has its first fault there. */
    void dueFault(String text, int want) {
        SmellMoorings ship = new SmellMoorings();
        due("letters of \"" + text + "\"", text.length(), Due.writeAll(ship, text));
        due("fault() of \"" + text + "\"", want, ship.fault());
    }

    /** Each of these calls answers that, and behind them all is as it was. */
    void refused(SmellMoorings ship, int want, IntSupplier... calls) {
        unchanged(ship, () -> {
            for (int i = 0; i < calls.length; i++) {
                due("refused call " + (i + 1), want, calls[i].getAsInt());
            }
        });
    }

    void unchanged(SmellMoorings ship, Runnable calls) {
        int[] before = all(ship);
        calls.run();
        int[] after = all(ship);
        due("how much there is behind them", before.length, after.length);
        for (int i = 0; i < before.length && i < after.length; i++) {
            due("nothing changes: number " + i + " of all", before[i], after[i]);
        }
    }

    private static int[] all(SmellMoorings ship) {
        int posts = ship.count(0);
        int crew = ship.count(1);
        int[] all = new int[13 + 4 * posts + 3 * crew];
        int i = 0;
        for (int what = 0; what < 13; what++) {
            all[i++] = ship.count(what);
        }
        for (int p = 0; p < posts; p++) {
            for (int what = 0; what < 4; what++) {
                all[i++] = ship.post(p, what);
            }
        }
        for (int c = 0; c < crew; c++) {
            for (int what = 0; what < 3; what++) {
                all[i++] = ship.crew(c, what);
            }
        }
        return all;
    }

    void end() {
        somethingIsDueOfTheLast();
        everyBoundaryIsNamed();
        everyRefusalIsDue();
        System.out.println("EdgesTest: " + held + " sentences");
        due.end();
    }

    /** From the field to the last promise; what stands before and behind them tells no boundary. */
    private void everyBoundaryIsNamed() {
        int from = document.indexOf("======== 1 THE FIELD");
        int to = document.indexOf("## Not promised");
        due.due("the document's parts stand in it", 1, from > 0 && to > from ? 1 : 0);
        Matcher m = BOUNDARY.matcher(document);
        for (int at = Math.max(0, from); m.find(at) && m.start() < to; at = m.end()) {
            for (int i = m.start(); i < m.end(); i++) {
                if (!named[i]) {
                    due.due("a test that names: .." + document.substring(Math.max(0, m.start() - 60), m.end()), 1, 0);
                    break;
                }
            }
        }
    }

    private void everyRefusalIsDue() {
        String[] answers = {"BAD", "NO", "FULL", "NONE"};
        for (int p = 1; p <= 30; p++) {
            int from = document.indexOf("## Promise " + p + ":");
            int to = document.indexOf("## ", from + 3);
            String told = from < 0 || to < 0 ? "BAD NO FULL NONE" : document.substring(from, to);
            for (int i = 0; i < answers.length; i++) {
                if (told.matches(".*\\b" + answers[i] + "\\b.*")) {
                    due.due("promise " + p + ": " + answers[i] + " is due in a test", 1,
                        refusals.contains(p + " " + (-1 - i)) ? 1 : 0);
                }
            }
        }
    }
}
