import java.io.IOException;
import java.nio.file.Files;
import java.nio.file.Path;
import java.util.HashSet;
import java.util.Set;

/** Counts what is not as due, prints it, and ends a test. */
final class Check {
    private static final int MOST_PRINTED = 40;
    private static final Path DOCUMENT = Path.of("../shared/DOC.md");

    private final String name;
    private final String document;
    private String sentence = "";
    private final Set<String> sentences = new HashSet<>();
    private int asked;
    private int wrong;

    Check(String name) {
        this.name = name;
        document = documentText();
    }

    /** The sentence of the document that the checks from here on test; a word is given if it stands there no more. */
    void says(String quote) {
        sentence = " [" + quote + "]";
        sentences.add(quote);
        if (!document.isEmpty() && !document.contains(quote)) {
            System.out.println(name + ": the document does not say (any more): " + quote);
        }
    }

    private static String documentText() {
        try {
            return Files.exists(DOCUMENT) ? Files.readString(DOCUMENT).replaceAll("\\s+", " ") : "";
        } catch (IOException e) {
            return "";
        }
    }

    /** A call whose answer, or whose exception, is looked at. */
    interface Call {
        long answer();
    }

    void is(String what, long got, long due) {
        isTrue(what + " answered " + got + ", due is " + due, got == due);
    }

    void answers(String what, Call call, long due) {
        String got = outcome(call);
        isTrue(what + " answered " + got + ", due is " + due, got.equals(Long.toString(due)));
    }

    void refuses(String what, Call call, Class<? extends RuntimeException> due) {
        String got = outcome(call);
        isTrue(what + " answered " + got + ", due is " + due.getSimpleName(), got.equals(due.getSimpleName()));
    }

    void isTrue(String what, boolean holds) {
        asked++;
        if (!holds) {
            wrong++;
            if (wrong <= MOST_PRINTED) {
                System.out.println(name + ": " + what + sentence);
            }
        }
    }

    boolean failed() {
        return wrong != 0;
    }

    void end() {
        String of = sentences.isEmpty() ? "" : " for " + sentences.size() + " sentences";
        System.out.println(name + ": " + asked + " looked at" + of + ", " + wrong + " not as due");
        if (wrong != 0) {
            System.exit(1);
        }
    }

    static String outcome(Call call) {
        try {
            return Long.toString(call.answer());
        } catch (RuntimeException e) {
            return e.getClass().getSimpleName();
        }
    }
}
