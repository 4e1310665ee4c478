import java.io.IOException;

/**
 * Each sentence of the document, from "Terms" on, has a test of its own (under test/support), which
 * quotes it: the least and the greatest that is allowed, what is one beyond, the empty and the full,
 * each refusal with what it counts and what stays.
 */
public final class SentencesTest extends Sheet {
    public static void main(String[] args) throws IOException {
        TextSentences.run();
        StepSentences.run();
        AskSentences.run();
        CallSentences.run();
        FetchSentences.run();
        LastSentences.run();
        holdAgainstDocument();
        System.out.println(tally());
        if (wrongs() != 0) {
            System.exit(1);
        }
    }
}
