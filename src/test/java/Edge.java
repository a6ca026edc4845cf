import java.nio.file.Files;
import java.nio.file.Path;
import java.util.ArrayList;
import java.util.Arrays;
import java.util.List;
import java.util.Map;

/**
 * Tests of sentences. Each begins with says() or terms(), which name a promise and quote the document,
 * and asks at the boundary that the sentence names. Every question is put to a new object with the
 * calls of the scene behind it, so no answer hangs on an earlier question.
 */
final class Edge {
    /** A skater who has drawn on worn ice, with a ROW (as TRACE 0) and an older IMAGE; no letters. */
    static final String[] WORN = {"lay(0, 3, 0, 2)", "lay(1, 7, 1, 61)", "set(0, 45)", "set(3, 2)",
        "skater(1, 4)", "draw(0, 7, 8)", "image()", "lay(0, 4, 1, 33)", "set(1, 2)", "set(4, 1)",
        "skater(6, 3)", "draw(1, 5, 9)", "draw(0, 6, 9)", "row 52 52 51"};
    /** As WORN, but with letters that would tell a RINK. */
    static final String[] BUSY = with(WORN, "feed s4=7;k20;");
    /** As BUSY, but with six TRACES. */
    static final String[] FULL = with(BUSY, "draw(1, 2, 3)", "draw(1, 9, 1)", "draw(0, 1, 9)");

    private static final String DOC = "../shared/DOC.md";

    /** The quotes so far, as "promise: sentence" and, of a clause, "promise: sentence | clause". */
    final List<String> quotes = new ArrayList<>();
    private final String document;
    private String[] scene = {};
    private Map<String, Long> sceneSeen;
    private Map<String, Long> sceneWholly;
    private int asked = 1;
    private int right;
    private int wrong;

    Edge() {
        try {
            document = plain(Files.readString(Path.of(DOC)));
        } catch (java.io.IOException e) {
            throw new IllegalStateException(e);
        }
    }

    static String plain(String text) {
        return text.replace("```text", " ").replace("```", " ").replaceAll("\\s+", " ").trim();
    }

    /** What stands under a promise's heading, behind the name of the call. */
    String textOf(int promise) {
        int head = document.indexOf("## Promise " + promise + ":");
        int end = document.indexOf(" ## ", head);
        String all = document.substring(head, end);
        return all.substring(all.indexOf("`: ") + 3);
    }

    /** What stands ahead of the promises: the terms, THE IMAGE, REFUSALS. */
    String termsText() {
        return document.substring(document.indexOf("An object is used"), document.indexOf("## Promise 1:"));
    }

    void says(int promise, String sentence) {
        begin(promise, sentence);
        due("the sentence stands under the promise", textOf(promise).contains(sentence) ? 1 : 0, 1);
        asked = 0;
    }

    /** Of a sentence that tells several refusals, one of them. */
    void says(int promise, String sentence, String clause) {
        says(promise, sentence);
        quotes.add(promise + ": " + sentence + " | " + clause);
        due("the clause stands in the sentence", sentence.contains(clause) ? 1 : 0, 1);
        asked = 0;
    }

    /** A sentence of the terms that a promise rests on. */
    void terms(int promise, String sentence) {
        begin(promise, sentence);
        due("the sentence stands in the terms", termsText().contains(sentence) ? 1 : 0, 1);
        asked = 0;
    }

    private void begin(int promise, String sentence) {
        endSentence();
        quotes.add(promise + ": " + sentence);
        on();
    }

    private void endSentence() {
        if (asked == 0) {
            wrong++;
            System.out.println(lastQuote() + ": nothing was asked");
        }
    }

    private String lastQuote() {
        return quotes.isEmpty() ? "" : "Promise " + quotes.get(quotes.size() - 1);
    }

    static String[] with(String[] calls, String... more) {
        String[] all = Arrays.copyOf(calls, calls.length + more.length);
        System.arraycopy(more, 0, all, calls.length, more.length);
        return all;
    }

    /** The calls that stand ahead of each question from here on. */
    void on(String... calls) {
        scene = calls;
        sceneSeen = null;
        sceneWholly = null;
    }

    private Map<String, Long> sceneSeen() {
        if (sceneSeen == null) {
            sceneSeen = new Skated(scene).seen();
        }
        return sceneSeen;
    }

    private Map<String, Long> sceneWholly() {
        if (sceneWholly == null) {
            sceneWholly = new Skated(scene).wholly();
        }
        return sceneWholly;
    }

    void due(String what, long got, long want) {
        asked++;
        if (got == want) {
            right++;
        } else {
            wrong++;
            System.out.println(lastQuote() + "\n    " + what + " answered " + got + ", due is " + want);
        }
    }

    private void dueAll(String what, Map<String, Long> got, Map<String, Long> want) {
        boolean alike = got.equals(want);
        due(what + ", then all is as due", alike ? 1 : 0, 1);
        if (!alike) {
            List<String> calls = new ArrayList<>(want.keySet());
            got.keySet().stream().filter(call -> !want.containsKey(call)).forEach(calls::add);
            for (String call : calls) {
                if (!String.valueOf(got.get(call)).equals(String.valueOf(want.get(call)))) {
                    System.out.println("    " + call + " is " + got.get(call) + ", due is " + want.get(call));
                }
            }
        }
    }

    private String name(String call) {
        return call + (scene.length == 0 ? "" : " behind " + Arrays.toString(scene));
    }

    /** A question: its answer, and nothing changes, no REFUSAL is counted either. */
    void answers(String call, long want) {
        Skated x = new Skated(scene);
        due(name(call), x.ask(call), want);
        dueAll(name(call), x.wholly(), sceneWholly());
    }

    /** Answers to questions one behind the other on one object. */
    void answersRow(String pattern, int from, long... want) {
        Skated x = new Skated(scene);
        for (int i = 0; i < want.length; i++) {
            String call = pattern.replace("?", String.valueOf(from + i));
            due(name(call), x.ask(call), want[i]);
        }
        dueAll(name(pattern), x.seen(), sceneSeen());
    }

    /** A call that changes what "call=answer" tells, and nothing else; "call=" is there no more. */
    void changes(String call, long want, String... changed) {
        Skated x = new Skated(scene);
        due(name(call), x.ask(call), want);
        Map<String, Long> after = new java.util.HashMap<>(sceneSeen());
        for (String change : changed) {
            int at = change.indexOf('=');
            if (at == change.length() - 1) {
                after.remove(change.substring(0, at));
            } else {
                after.put(change.substring(0, at), Long.parseLong(change.substring(at + 1)));
            }
        }
        dueAll(name(call), x.seen(), after);
    }

    /** What a new TRACE changes, for changes(). */
    String[] line(int number, int foot, int push, int lean, int... radii) {
        List<String> changed = new ArrayList<>();
        changed.add("count(0)=" + (number + 1));
        if (foot == 0) {
            changed.add("count(1)=" + (sceneSeen().get("count(1)") + 1));
        }
        changed.add("of(" + number + ", 0)=" + foot);
        changed.add("of(" + number + ", 1)=" + push);
        changed.add("of(" + number + ", 2)=" + lean);
        for (int hour = 0; hour < 12; hour++) {
            changed.add("trace(" + number + ", " + hour + ")=" + radii[Math.min(hour, radii.length - 1)]);
        }
        return changed.toArray(new String[0]);
    }

    /** A refused call: its answer, one REFUSAL more of its number, and nothing else changes. */
    void refused(String call, int code) {
        Skated x = new Skated(scene);
        due(name(call), x.ask(call), answerOf(call, code));
        Map<String, Long> after = new java.util.HashMap<>(sceneWholly());
        after.merge("count(" + (10 - code) + ")", 1L, Long::sum);
        dueAll(name(call), x.wholly(), after);
    }

    /** A call that is taken: no REFUSAL is counted. */
    void notRefused(String call) {
        Skated x = new Skated(scene);
        x.ask(call);
        Map<String, Long> before = sceneSeen();
        for (int what = 11; what <= 16; what++) {
            String count = "count(" + what + ")";
            due(name(call) + ", then " + count, x.ask(count), before.get(count));
        }
    }

    /** Behind one run of calls all that can be seen is as behind another. */
    void alike(String[] calls, String... others) {
        dueAll(Arrays.toString(calls), new Skated(calls).seen(), new Skated(others).seen());
    }

    private static long answerOf(String call, int code) {
        if (call.startsWith("grows(")) {
            return 1000000000L - code;
        }
        return call.startsWith("mean(") || call.startsWith("from(") ? 4000000000000000000L - code : code;
    }

    /** "?" at the least number that is taken, at the one next to it that is not, at the smallest int. */
    void below(String pattern, int least, int code) {
        notRefusedBy(pattern.replace("?", String.valueOf(least)), code);
        justBelow(pattern, least, code);
    }

    /** As below(), where something else refuses the least number likewise. */
    void justBelow(String pattern, int least, int code) {
        refused(pattern.replace("?", String.valueOf(least - 1)), code);
        refused(pattern.replace("?", "MIN"), code);
    }

    /** "?" at the greatest number that is taken, at the one next to it that is not, at the greatest int. */
    void above(String pattern, int most, int code) {
        notRefusedBy(pattern.replace("?", String.valueOf(most)), code);
        justAbove(pattern, most, code);
    }

    /** As above(), where something else refuses the greatest number likewise. */
    void justAbove(String pattern, int most, int code) {
        refused(pattern.replace("?", String.valueOf(most + 1)), code);
        refused(pattern.replace("?", "MAX"), code);
    }

    /** "?" at both ends of what there is, and on either side of them. */
    void outside(String pattern, int least, int most, int code) {
        below(pattern, least, code);
        above(pattern, most, code);
    }

    /** As outside(), where something else refuses every number likewise. */
    void justOutside(String pattern, int least, int most, int code) {
        justBelow(pattern, least, code);
        justAbove(pattern, most, code);
    }

    private void notRefusedBy(String call, int code) {
        Skated x = new Skated(scene);
        x.ask(call);
        String count = "count(" + (10 - code) + ")";
        due(name(call) + ", then " + count, x.ask(count), sceneSeen().get(count));
    }

    void finish(String test) {
        endSentence();
        System.out.println(test + ": " + right + " right, " + wrong + " wrong");
        if (wrong != 0 || right == 0) {
            System.exit(1);
        }
    }
}
