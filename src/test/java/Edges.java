import java.util.function.Consumer;
import java.util.function.ToLongFunction;

/** What the tests of the document's edges share: each says first which sentence it is about. */
final class Edges {
    private final Due due;
    private final Document document;
    private String sentence = "";
    private int sentences;
    private int looks;

    Edges(Due due, Document document) {
        this.due = due;
        this.document = document;
    }

    /** From here on it is about these words, which stand under this heading. */
    void about(String heading, String words) {
        close();
        sentence = heading + " \"" + words + "\": ";
        sentences++;
        if (document.isThere()) due.holds("under " + heading + " stands: " + words, document.cite(heading, words));
    }

    void is(String call, long got, long want) {
        looks++;
        due.is(sentence + call, got, want);
    }

    /** The call is refused by what is wanted, and behind it all is as if it had not been made. */
    void refused(String told, Consumer<HouseholdVault> build, ToLongFunction<HouseholdVault> call, long want) {
        is(told, call.applyAsLong(built(build)), want);
        String changed = State.firstDifference(build, call);
        due.holds(sentence + told + " changes nothing, but " + changed, changed == null);
    }

    static HouseholdVault built(Consumer<HouseholdVault> build) {
        HouseholdVault x = new HouseholdVault();
        build.accept(x);
        return x;
    }

    /** Numbers that none of so many has: the nearest on both sides, and the farthest. */
    static int[] noneOf(int count) {
        return new int[] {Integer.MIN_VALUE, -2, -1, count, count + 1, Integer.MAX_VALUE};
    }

    /** The same, where -1 means something else. */
    static int[] noneButTop(int count) {
        return new int[] {Integer.MIN_VALUE, -2, count, count + 1, Integer.MAX_VALUE};
    }

    private void close() {
        if (sentences > 0) due.holds("something is looked at for " + sentence, looks > 0);
        looks = 0;
    }

    void end() {
        close();
        if (!document.isThere()) System.out.println("the document is not there: words are not held against it");
        for (String heading : document.bindingHeadings()) {
            String left = document.notCited(heading);
            due.holds("all words under " + heading + " are cited, but: " + left, left.isEmpty());
        }
        System.out.println("sentences: " + sentences);
        due.end();
    }
}
