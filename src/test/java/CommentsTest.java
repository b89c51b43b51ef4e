import java.util.NoSuchElementException;

/** Promises 10 to 14: comments. */
final class CommentsTest {

    private static final Class<NoSuchElementException> MISSING = NoSuchElementException.class;
    private static final Class<IndexOutOfBoundsException> OUTSIDE = IndexOutOfBoundsException.class;
    private static final Class<IllegalStateException> STATE = IllegalStateException.class;

    public static void main(String[] args) {
        commentSpans();
        commentLimit();
        commentOnClosedText();
        answers();
        openness();
        spansMove();
        spansOfOtherDocumentsStay();
        answeredSpansAreGone();
        eightComments();
        spansAtTheEdges();
        answeredSpanAndOthers();
        Check.end();
    }

    private static void commentSpans() {
        Proofpress p = Shop.withText("abcd");
        Check.thrown("10 no document", MISSING, () -> p.comment(1, 0, 1));
        Check.thrown("10 document -1", MISSING, () -> p.comment(-1, -1, -1));
        Check.thrown("10 from -1", OUTSIDE, () -> p.comment(0, -1, 1));
        Check.thrown("10 to behind the end", OUTSIDE, () -> p.comment(0, 0, 5));
        Check.thrown("10 empty", OUTSIDE, () -> p.comment(0, 2, 2));
        Check.thrown("10 empty at the end", OUTSIDE, () -> p.comment(0, 4, 4));
        Check.thrown("10 turned round", OUTSIDE, () -> p.comment(0, 3, 1));
        Check.thrown("10 huge", OUTSIDE, () -> p.comment(0, Integer.MIN_VALUE, Integer.MAX_VALUE));
        Check.due("10 the whole text", 0, () -> p.comment(0, 0, 4));
        Check.due("10 the last place", 1, () -> p.comment(0, 3, 4));
        Check.due("10 the first place", 2, () -> p.comment(0, 0, 1));
        Check.due("13 from", 3, () -> p.spanFrom(1));
        Check.due("14 to", 4, () -> p.spanTo(1));
        Check.due("9 a comment is no edit", 4, () -> p.version(0));
        Proofpress empty = Shop.withText("");
        Check.thrown("10 no text", OUTSIDE, () -> empty.comment(0, 0, 0));
    }

    private static void commentLimit() {
        Proofpress p = Shop.withText("abcd");
        p.addDocument();
        Shop.type(p, 1, "xy");
        for (int i = 0; i < 8; i++) {
            int document = i % 2;
            Check.due("10 number", i, () -> p.comment(document, 0, 1));
        }
        Check.thrown("10 ninth", STATE, () -> p.comment(0, 0, 1));
        Check.thrown("10 span before limit", OUTSIDE, () -> p.comment(0, 0, 0));
        Check.thrown("10 document before limit", MISSING, () -> p.comment(2, 0, 0));
        p.answer(0);
        Check.thrown("10 answered ones count", STATE, () -> p.comment(0, 0, 1));
        Check.thrown("12 the ninth is not there", MISSING, () -> p.isOpen(8));
    }

    private static void commentOnClosedText() {
        Proofpress p = Shop.withText("abcd");
        p.close(0, 0);
        Check.due("10 a closed text takes comments", 0, () -> p.comment(0, 1, 2));
    }

    private static void answers() {
        Proofpress p = Shop.withText("abcd");
        p.addDocument();
        Shop.type(p, 1, "xy");
        Check.thrown("11 none yet", MISSING, () -> p.answer(0));
        p.comment(0, 0, 1);
        p.comment(1, 0, 1);
        p.comment(0, 0, 2);
        p.comment(0, 3, 4);
        Check.due("11 two are left on its document", 2, () -> p.answer(2));
        Check.due("11 none is left on the other", 0, () -> p.answer(1));
        Check.thrown("11 twice", STATE, () -> p.answer(2));
        Check.due("11 one is left", 1, () -> p.answer(0));
        Check.due("11 none is left", 0, () -> p.answer(3));
        Check.thrown("11 no comment", MISSING, () -> p.answer(4));
        Check.thrown("11 comment -1", MISSING, () -> p.answer(-1));
    }

    private static void openness() {
        Proofpress p = Shop.withText("abcd");
        Check.thrown("12 none yet", MISSING, () -> p.isOpen(0));
        p.comment(0, 0, 1);
        p.comment(0, 0, 1);
        Check.due("12 open", true, () -> p.isOpen(0));
        p.answer(0);
        Check.due("12 answered", false, () -> p.isOpen(0));
        Check.due("12 the other is open", true, () -> p.isOpen(1));
        Check.thrown("12 no comment", MISSING, () -> p.isOpen(2));
        Check.thrown("12 comment -1", MISSING, () -> p.isOpen(-1));
    }

    private static void spansMove() {
        Proofpress p = Shop.withText("abcdef");
        p.comment(0, 2, 4);
        p.insert(0, 2, 'x');
        checkSpan(p, 0, 3, 5, "insertion directly ahead");
        p.insert(0, 0, 'x');
        checkSpan(p, 0, 4, 6, "insertion at the start");
        p.insert(0, 6, 'x');
        checkSpan(p, 0, 4, 6, "insertion directly behind");
        p.insert(0, 9, 'x');
        checkSpan(p, 0, 4, 6, "insertion at the end");
        p.delete(0, 3);
        checkSpan(p, 0, 3, 5, "deletion directly ahead");
        p.delete(0, 0);
        checkSpan(p, 0, 2, 4, "deletion at the start");
        p.delete(0, 4);
        checkSpan(p, 0, 2, 4, "deletion directly behind");
        p.comment(0, 0, 1);
        p.insert(0, 1, 'y');
        checkSpan(p, 1, 0, 1, "insertion behind a span of one");
        checkSpan(p, 0, 3, 5, "insertion ahead of the longer span");
    }

    private static void checkSpan(Proofpress p, int comment, int from, int to, String what) {
        Check.due("13 " + what, from, () -> p.spanFrom(comment));
        Check.due("14 " + what, to, () -> p.spanTo(comment));
    }

    private static void spansOfOtherDocumentsStay() {
        Proofpress p = Shop.withText("abcd");
        p.addDocument();
        Shop.type(p, 1, "abcd");
        p.comment(0, 1, 3);
        p.comment(1, 1, 3);
        p.insert(1, 0, 'x');
        checkSpan(p, 0, 1, 3, "insertion into another document");
        checkSpan(p, 1, 2, 4, "insertion into its own document");
        p.delete(0, 0);
        checkSpan(p, 0, 0, 2, "deletion in its own document");
        checkSpan(p, 1, 2, 4, "deletion in another document");
    }

    private static void answeredSpansAreGone() {
        Proofpress p = Shop.withText("abcd");
        Check.thrown("13 no comment", MISSING, () -> p.spanFrom(0));
        Check.thrown("14 no comment", MISSING, () -> p.spanTo(0));
        p.comment(0, 1, 3);
        Check.thrown("13 comment -1", MISSING, () -> p.spanFrom(-1));
        Check.thrown("14 comment -1", MISSING, () -> p.spanTo(-1));
        p.answer(0);
        Check.thrown("13 answered", STATE, () -> p.spanFrom(0));
        Check.thrown("14 answered", STATE, () -> p.spanTo(0));
    }

    /** At most 8 comments have numbers from 0; a comment is open until it is answered. */
    private static void eightComments() {
        Proofpress p = Shop.withText(Shop.letters(80));
        for (int i = 0; i < 8; i++) {
            int number = i;
            Check.thrown("12 number " + i + " is not there yet", MISSING, () -> p.isOpen(number));
            Check.due("10 number " + i, i, () -> p.comment(0, number, 80 - number));
            Check.due("12 number " + i + " is open", true, () -> p.isOpen(number));
        }
        for (int i = 7; i >= 0; i--) {
            int number = i;
            Check.due("13 of number " + i, i, () -> p.spanFrom(number));
            Check.due("14 of number " + i, 80 - i, () -> p.spanTo(number));
            Check.due("11 so many are open then", i, () -> p.answer(number));
            Check.due("12 number " + i + " is answered", false, () -> p.isOpen(number));
        }
    }

    /** The shortest and the longest span, at the start and at the end. */
    private static void spansAtTheEdges() {
        int[][] spans = {{0, 1}, {0, 80}, {79, 80}, {0, 79}, {1, 80}, {39, 41}};
        Proofpress p = Shop.withText(Shop.letters(80));
        for (int i = 0; i < spans.length; i++) {
            int number = i;
            int from = spans[i][0];
            int to = spans[i][1];
            Check.due("10 from " + from + " to " + to, i, () -> p.comment(0, from, to));
            Check.due("13 from " + from, from, () -> p.spanFrom(number));
            Check.due("14 to " + to, to, () -> p.spanTo(number));
        }
        Proofpress one = Shop.withText("a");
        Check.due("10 the only character", 0, () -> one.comment(0, 0, 1));
        one.insert(0, 0, 'b');
        checkSpan(one, 0, 1, 2, "insertion in front of the only character");
        one.insert(0, 2, 'c');
        checkSpan(one, 0, 1, 2, "insertion behind the only character");
        one.delete(0, 0);
        checkSpan(one, 0, 0, 1, "deletion in front of the only character");
        one.delete(0, 1);
        checkSpan(one, 0, 0, 1, "deletion behind the only character");
    }

    private static void answeredSpanAndOthers() {
        Proofpress p = Shop.withText("abcdef");
        p.comment(0, 0, 3);
        p.comment(0, 4, 6);
        p.answer(0);
        for (int i = 0; i < 4; i++) {
            p.delete(0, 0);
        }
        checkSpan(p, 1, 0, 2, "an answered span is deleted in front of it");
        Check.due("12 the answered one stays answered", false, () -> p.isOpen(0));
        Check.due("10 the next number", 2, () -> p.comment(0, 0, 1));
    }
}
