import java.util.NoSuchElementException;

/** Promises 1 to 9: documents and edits. */
final class TextsTest {

    private static final Class<NoSuchElementException> MISSING = NoSuchElementException.class;
    private static final Class<IndexOutOfBoundsException> OUTSIDE = IndexOutOfBoundsException.class;
    private static final Class<IllegalArgumentException> UNFIT = IllegalArgumentException.class;
    private static final Class<IllegalStateException> STATE = IllegalStateException.class;
    private static final Class<UnsupportedOperationException> BARRED = UnsupportedOperationException.class;

    public static void main(String[] args) {
        newObject();
        addDocument();
        insertOrdinary();
        insertCodes();
        insertWrong();
        insertOrderOfExceptions();
        deleteOrdinary();
        deleteWrong();
        barPlaces();
        barByClosing();
        barByComment();
        barByPress();
        barOrder();
        closeHours();
        readers();
        failedEditChangesNothing();
        documentNumbers();
        everyCode();
        symbolsCountAsOne();
        emptyText();
        fromEmptyToFullAndBack();
        frozenSpansAtTheEdges();
        spansSideBySide();
        closingAtTheEdges();
        lockedPagesOfEachSheet();
        lockedByAnyOrder();
        Check.end();
    }

    private static void newObject() {
        Proofpress p = new Proofpress();
        Check.due("1 hour", 0, p::hour);
        Check.due("1 paper", 0, p::paper);
        Check.due("1 plates", 0, p::plates);
        Check.due("1 freePaper", 0, p::freePaper);
        Check.due("1 onPress", -1, p::onPress);
        Check.thrown("1 length", MISSING, () -> p.length(0));
        Check.thrown("1 isDone", MISSING, () -> p.isDone(0));
        Check.thrown("1 isOpen", MISSING, () -> p.isOpen(0));
        Proofpress other = new Proofpress();
        other.addDocument();
        Check.thrown("1 objects share nothing", MISSING, () -> p.version(0));
    }

    private static void addDocument() {
        Proofpress p = new Proofpress();
        for (int i = 0; i < 3; i++) {
            Check.due("2 number", i, p::addDocument);
        }
        Check.due("2 length", 0, () -> p.length(2));
        Check.due("2 version", 0, () -> p.version(2));
        Check.thrown("2 fourth", STATE, p::addDocument);
        Check.thrown("2 fourth is not there", MISSING, () -> p.length(3));
    }

    private static void insertOrdinary() {
        Proofpress p = Shop.withText("bd");
        Check.due("3 in between", 3, () -> p.insert(0, 1, 'c'));
        Check.due("3 in front", 4, () -> p.insert(0, 0, 'a'));
        Check.due("3 behind", 5, () -> p.insert(0, 4, 'e'));
        Check.due("3 text", "abcde", () -> Shop.textOf(p, 0));
        p.addDocument();
        Check.due("3 other document", 1, () -> p.insert(1, 0, 'z'));
        Check.due("3 first document is as it was", "abcde", () -> Shop.textOf(p, 0));
        Check.due("3 first version is as it was", 5, () -> p.version(0));
    }

    private static void insertCodes() {
        Proofpress p = Shop.withText("");
        int[] good = {32, 97, 122, 128512, 128527};
        for (int i = 0; i < good.length; i++) {
            int code = good[i];
            Check.due("3 code " + code, i + 1, () -> p.insert(0, 0, code));
            Check.due("8 code " + code, code, () -> p.codeAt(0, 0));
        }
        int[] bad = {31, 33, 96, 123, 65, 0, -1, 128511, 128528, Integer.MAX_VALUE, Integer.MIN_VALUE};
        for (int code : bad) {
            Check.thrown("3 code " + code, UNFIT, () -> p.insert(0, 0, code));
        }
        Check.due("3 symbols count as one", 5, () -> p.length(0));
    }

    private static void insertWrong() {
        Proofpress p = Shop.withText("ab");
        Check.thrown("3 no document", MISSING, () -> p.insert(1, 0, 'a'));
        Check.thrown("3 document -1", MISSING, () -> p.insert(-1, 0, 'a'));
        Check.thrown("3 place -1", OUTSIDE, () -> p.insert(0, -1, 'a'));
        Check.thrown("3 place 3", OUTSIDE, () -> p.insert(0, 3, 'a'));
        Proofpress full = Shop.withText(Shop.letters(79));
        Check.due("3 last that fits", 80, () -> full.insert(0, 79, 'a'));
        Check.thrown("3 full", STATE, () -> full.insert(0, 0, 'a'));
        Check.thrown("3 full at its end", STATE, () -> full.insert(0, 80, 'a'));
        Check.thrown("3 full behind its end", OUTSIDE, () -> full.insert(0, 81, 'a'));
        full.delete(0, 0);
        Check.due("3 full no longer", 82, () -> full.insert(0, 0, 'a'));
    }

    private static void insertOrderOfExceptions() {
        Proofpress p = Shop.withText(Shop.letters(80));
        p.close(0, 0);
        Check.thrown("3 document first", MISSING, () -> p.insert(1, -1, 0));
        Check.thrown("3 then place", OUTSIDE, () -> p.insert(0, -1, 0));
        Check.thrown("3 then code", UNFIT, () -> p.insert(0, 0, 0));
        Check.thrown("3 then full", STATE, () -> p.insert(0, 0, 'a'));
        Proofpress q = Shop.withText("a");
        q.close(0, 0);
        Check.thrown("3 then barred", BARRED, () -> q.insert(0, 0, 'a'));
    }

    private static void deleteOrdinary() {
        Proofpress p = Shop.withText("abcde");
        Check.due("4 in between", (int) 'c', () -> p.delete(0, 2));
        Check.due("4 first", (int) 'a', () -> p.delete(0, 0));
        Check.due("4 last", (int) 'e', () -> p.delete(0, 2));
        Check.due("4 text", "bd", () -> Shop.textOf(p, 0));
        Check.due("4 version", 8, () -> p.version(0));
        p.delete(0, 0);
        p.delete(0, 0);
        Check.due("4 nothing is left", 0, () -> p.length(0));
        Check.due("4 and in again", 11, () -> p.insert(0, 0, 128520));
    }

    private static void deleteWrong() {
        Proofpress p = Shop.withText("ab");
        Check.thrown("4 no document", MISSING, () -> p.delete(1, 0));
        Check.thrown("4 document -1", MISSING, () -> p.delete(-1, 0));
        Check.thrown("4 place -1", OUTSIDE, () -> p.delete(0, -1));
        Check.thrown("4 place 2", OUTSIDE, () -> p.delete(0, 2));
        p.close(0, 0);
        Check.thrown("4 place before bar", OUTSIDE, () -> p.delete(0, 2));
        Check.thrown("4 document before bar", MISSING, () -> p.delete(3, 0));
        Check.thrown("4 barred", BARRED, () -> p.delete(0, 0));
    }

    private static void barPlaces() {
        Proofpress p = Shop.withText("ab");
        Check.due("5 insertion at the end", '-', () -> p.bar(0, 2, true));
        Check.due("5 deletion of the last", '-', () -> p.bar(0, 1, false));
        Check.thrown("5 insertion behind the end", OUTSIDE, () -> p.bar(0, 3, true));
        Check.thrown("5 deletion at the end", OUTSIDE, () -> p.bar(0, 2, false));
        Check.thrown("5 insertion at -1", OUTSIDE, () -> p.bar(0, -1, true));
        Check.thrown("5 deletion at -1", OUTSIDE, () -> p.bar(0, -1, false));
        Check.thrown("5 no document", MISSING, () -> p.bar(1, 0, true));
        Check.thrown("5 document -1", MISSING, () -> p.bar(-1, -1, false));
        Proofpress full = Shop.withText(Shop.letters(80));
        Check.due("5 a full text is no bar", '-', () -> full.bar(0, 80, true));
    }

    private static void barByClosing() {
        Proofpress p = Shop.withText("ab");
        p.close(0, 2);
        Check.due("5 before closing", '-', () -> p.bar(0, 0, true));
        p.pass(1);
        Check.due("5 an hour before closing", '-', () -> p.bar(0, 0, false));
        p.pass(1);
        Check.due("5 at closing", 'c', () -> p.bar(0, 0, true));
        p.pass(1);
        Check.due("5 behind closing", 'c', () -> p.bar(0, 0, false));
        p.close(0, 4);
        Check.due("5 closed later", '-', () -> p.bar(0, 0, false));
        p.addDocument();
        p.close(0, 0);
        Check.due("5 other document", '-', () -> p.bar(1, 0, true));
        Proofpress late = Shop.withText("a");
        Shop.passTo(late, 998);
        Check.due("5 hour 998", '-', () -> late.bar(0, 0, true));
        late.pass(1);
        Check.due("5 hour 999", 'c', () -> late.bar(0, 0, true));
    }

    private static void barByComment() {
        Proofpress p = Shop.withText("abcdef");
        p.comment(0, 2, 4);
        String insertions = "";
        String deletions = "";
        for (int place = 0; place < 6; place++) {
            insertions += p.bar(0, place, true);
            deletions += p.bar(0, place, false);
        }
        String gotInsertions = insertions;
        String gotDeletions = deletions;
        Check.due("5 frozen insertions", "---f--", () -> gotInsertions);
        Check.due("5 frozen deletions", "--ff--", () -> gotDeletions);
        p.addDocument();
        Shop.type(p, 1, "abcdef");
        Check.due("5 other document is not frozen", '-', () -> p.bar(1, 3, false));
        p.comment(0, 0, 6);
        p.answer(1);
        Check.due("5 answered comment does not freeze", '-', () -> p.bar(0, 5, false));
        p.comment(0, 5, 6);
        Check.due("5 a span of one bars no insertion in front", '-', () -> p.bar(0, 5, true));
        Check.due("5 nor behind", '-', () -> p.bar(0, 6, true));
        Check.due("5 but its deletion", 'f', () -> p.bar(0, 5, false));
        Check.thrown("4 frozen", BARRED, () -> p.delete(0, 5));
        Check.thrown("3 frozen", BARRED, () -> p.insert(0, 3, 'x'));
        Check.due("4 beside the span", (int) 'e', () -> p.delete(0, 4));
    }

    private static void barByPress() {
        // 40 characters have 5 pages on 2 sheets: the first shows 7, 0, 1, 6, the second 5, 2, 3, 4.
        Proofpress p = Shop.withSignedText(Shop.letters(40));
        p.supply(9999, 99);
        p.addDocument();
        Shop.type(p, 1, "ab");
        p.order(0, 1, 10);
        p.print(0, 1);
        Check.due("5 page 0", 'l', () -> p.bar(0, 0, true));
        Check.due("5 last character", 'l', () -> p.bar(0, 39, false));
        Check.due("5 end of the text is page 5", 'l', () -> p.bar(0, 40, true));
        Check.due("5 other document is not locked", '-', () -> p.bar(1, 0, true));
        Check.thrown("3 locked", BARRED, () -> p.insert(0, 0, 'x'));
        Check.thrown("4 locked", BARRED, () -> p.delete(0, 39));
        p.pass(1);
        Check.due("5 the sheet has left", '-', () -> p.bar(0, 0, true));
        emptyPageLocks();
        laterTextIsFree();
        earlierProofLocks();
    }

    private static void emptyPageLocks() {
        // 20 characters have pages 0 to 2; the only sheet shows the empty page 3 as well.
        Proofpress p = Shop.withSignedText(Shop.letters(20));
        p.supply(9999, 99);
        p.order(0, 1, 10);
        Shop.type(p, 0, Shop.letters(20));
        p.print(0, 0);
        Check.due("5 a place on page 2", 'l', () -> p.bar(0, 23, false));
        Check.due("5 a place on the empty page 3", 'l', () -> p.bar(0, 24, false));
        Check.due("5 the last place of page 3", 'l', () -> p.bar(0, 31, true));
        Check.due("5 the first place of page 4", '-', () -> p.bar(0, 32, true));
        Check.due("5 deletion on page 4", '-', () -> p.bar(0, 39, false));
        Check.due("3 an edit behind what is locked", 41, () -> p.insert(0, 32, 'x'));
    }

    private static void laterTextIsFree() {
        // 72 characters have 9 pages on 3 sheets: sheet 2 shows 7, 4, 5, 6, sheet 1 shows 9, 2, 3, 8.
        Proofpress p = Shop.withSignedText(Shop.letters(72));
        p.supply(9999, 99);
        p.order(0, 1, 10);
        p.print(0, 2);
        Check.due("5 page 7 is locked by sheet 2", 'l', () -> p.bar(0, 63, false));
        Check.due("5 page 8 is not", '-', () -> p.bar(0, 64, false));
        p.pass(1);
        p.print(0, 1);
        Check.due("5 page 8 is locked by sheet 1", 'l', () -> p.bar(0, 71, false));
        Check.due("5 page 9 too, though empty", 'l', () -> p.bar(0, 72, true));
    }

    private static void earlierProofLocks() {
        Proofpress p = Shop.withSignedText(Shop.letters(40));
        p.supply(9999, 99);
        p.order(0, 1, 10);
        for (int i = 0; i < 10; i++) {
            p.delete(0, 0);
        }
        p.print(0, 0);
        // The sheet on the press has page 7 by its own proof, and page 3 by the next one.
        p.sign(0);
        Check.due("17 the next proof has one sheet", 1, () -> p.sheets(0));
        Check.due("5 the proof of the press counts", 'l', () -> p.bar(0, 30, true));
        Proofpress q = Shop.withSignedText(Shop.letters(30));
        q.supply(9999, 99);
        q.order(0, 1, 10);
        Shop.type(q, 0, Shop.letters(10));
        q.print(0, 0);
        q.sign(0);
        Check.due("17 the next proof has two sheets", 2, () -> q.sheets(0));
        Check.due("5 the proof of the press ends at page 3", '-', () -> q.bar(0, 32, false));
        Check.due("5 and locks page 3", 'l', () -> q.bar(0, 31, false));
    }

    private static void barOrder() {
        Proofpress p = Shop.withSignedText("abc");
        p.supply(9, 9);
        p.order(0, 1, 9);
        p.comment(0, 0, 3);
        p.print(0, 0);
        Check.due("5 comment before press", 'f', () -> p.bar(0, 1, true));
        Check.due("5 press where no comment", 'l', () -> p.bar(0, 0, true));
        p.close(0, 0);
        Check.due("5 closing before comment", 'c', () -> p.bar(0, 1, true));
        Check.due("5 closing before press", 'c', () -> p.bar(0, 0, true));
    }

    private static void closeHours() {
        Proofpress p = Shop.withText("");
        Check.due("6 first", 999, () -> p.close(0, 0));
        Check.due("6 then", 0, () -> p.close(0, 999));
        Check.due("6 again", 999, () -> p.close(0, 17));
        Check.thrown("6 hour -1", UNFIT, () -> p.close(0, -1));
        Check.thrown("6 hour 1000", UNFIT, () -> p.close(0, 1000));
        Check.thrown("6 no document", MISSING, () -> p.close(1, 1000));
        Check.thrown("6 document -1", MISSING, () -> p.close(-1, 5));
        Check.due("6 wrong calls set nothing", 17, () -> p.close(0, 18));
        p.addDocument();
        Check.due("6 each document has its own", 999, () -> p.close(1, 18));
    }

    private static void readers() {
        Proofpress p = Shop.withText("ab");
        Check.due("7 length", 2, () -> p.length(0));
        Check.thrown("7 no document", MISSING, () -> p.length(1));
        Check.thrown("7 document -1", MISSING, () -> p.length(-1));
        Check.due("8 first", (int) 'a', () -> p.codeAt(0, 0));
        Check.due("8 last", (int) 'b', () -> p.codeAt(0, 1));
        Check.thrown("8 place -1", OUTSIDE, () -> p.codeAt(0, -1));
        Check.thrown("8 place 2", OUTSIDE, () -> p.codeAt(0, 2));
        Check.thrown("8 no document", MISSING, () -> p.codeAt(1, 9));
        Check.thrown("8 document -1", MISSING, () -> p.codeAt(-1, 0));
        Check.due("9 version", 2, () -> p.version(0));
        p.delete(0, 1);
        Check.due("9 a deletion is an edit", 3, () -> p.version(0));
        Check.due("7 shorter", 1, () -> p.length(0));
        Check.thrown("8 what was deleted", OUTSIDE, () -> p.codeAt(0, 1));
        p.comment(0, 0, 1);
        p.answer(0);
        p.sign(0);
        Check.due("9 only edits count", 3, () -> p.version(0));
        Check.thrown("9 no document", MISSING, () -> p.version(1));
        Check.thrown("9 document -1", MISSING, () -> p.version(-1));
    }

    private static void failedEditChangesNothing() {
        Proofpress p = Shop.withText("abc");
        p.comment(0, 1, 3);
        Check.thrown("3 code", UNFIT, () -> p.insert(0, 0, 1));
        Check.thrown("3 frozen", BARRED, () -> p.insert(0, 2, 'x'));
        Check.thrown("4 frozen", BARRED, () -> p.delete(0, 1));
        Check.thrown("4 place", OUTSIDE, () -> p.delete(0, 3));
        Check.due("9 version", 3, () -> p.version(0));
        Check.due("8 text", "abc", () -> Shop.textOf(p, 0));
        Check.due("13 span", 1, () -> p.spanFrom(0));
        Check.due("14 span", 3, () -> p.spanTo(0));
    }

    /** At most 3 documents have numbers from 0. */
    private static void documentNumbers() {
        Proofpress p = new Proofpress();
        for (int count = 0; count < 3; count++) {
            int next = count;
            Check.thrown("2 number " + next + " is not there yet", MISSING, () -> p.version(next));
            Check.due("2 number", next, p::addDocument);
            Check.due("2 number " + next + " is there", 0, () -> p.version(next));
        }
        Check.due("3 the last document takes text", 1, () -> p.insert(2, 0, 'a'));
        Check.due("9 the first has none of it", 0, () -> p.version(0));
        Check.due("9 nor the second", 0, () -> p.version(1));
    }

    /** A letter from 'a' to 'z', a blank, or one of 16 symbols, and no other code. */
    private static void everyCode() {
        for (int code = -2; code < 300; code++) {
            checkCode(code, code == 32 || code >= 97 && code <= 122);
        }
        for (int code = 128480; code < 128560; code++) {
            checkCode(code, code >= 128512 && code <= 128527);
        }
        for (int code = 97; code <= 122; code++) {
            checkCode(code + 65536, false);
            checkCode(code - 65536, false);
            checkCode(code + (1 << 24), false);
            checkCode(-code, false);
        }
        checkCode(Integer.MAX_VALUE, false);
        checkCode(Integer.MIN_VALUE, false);
    }

    private static void checkCode(int code, boolean isGood) {
        Proofpress p = Shop.withText("b");
        if (isGood) {
            Check.due("3 code " + code, 2, () -> p.insert(0, 1, code));
            Check.due("8 code " + code, code, () -> p.codeAt(0, 1));
            Check.due("4 code " + code, code, () -> p.delete(0, 1));
        } else {
            Check.thrown("3 code " + code, UNFIT, () -> p.insert(0, 1, code));
            Check.due("7 nothing was put in", 1, () -> p.length(0));
        }
    }

    private static void symbolsCountAsOne() {
        Proofpress p = new Proofpress();
        p.addDocument();
        for (int i = 0; i < 80; i++) {
            int place = i;
            Check.due("3 symbol " + i, i + 1, () -> p.insert(0, place, 128512 + place % 16));
        }
        Check.due("7 80 symbols are 80 characters", 80, () -> p.length(0));
        Check.thrown("3 and no more", STATE, () -> p.insert(0, 80, 128512));
        Check.due("8 the last", 128512 + 79 % 16, () -> p.codeAt(0, 79));
        Check.due("15 on 3 sheets", 3, () -> p.sign(0));
        Check.due("19 the symbol 8 stands first on page 1", 128520, () -> p.shown(0, 0, 16));
        Check.due("4 a symbol goes as one", 128513, () -> p.delete(0, 1));
        Check.due("7 one less", 79, () -> p.length(0));
        Check.due("8 the next one in its place", 128514, () -> p.codeAt(0, 1));
    }

    private static void emptyText() {
        Proofpress p = Shop.withText("");
        Check.due("7 at first without any", 0, () -> p.length(0));
        Check.due("9 at first 0", 0, () -> p.version(0));
        Check.due("5 an insertion has one place", '-', () -> p.bar(0, 0, true));
        Check.thrown("5 and no other", OUTSIDE, () -> p.bar(0, 1, true));
        Check.thrown("5 a deletion has none", OUTSIDE, () -> p.bar(0, 0, false));
        Check.thrown("4 nothing to delete", OUTSIDE, () -> p.delete(0, 0));
        Check.thrown("8 nothing to read", OUTSIDE, () -> p.codeAt(0, 0));
        Check.due("3 the first character", 1, () -> p.insert(0, 0, ' '));
        Check.due("8 it is at place 0", 32, () -> p.codeAt(0, 0));
        Check.due("4 it goes again", 32, () -> p.delete(0, 0));
        Check.due("7 empty again", 0, () -> p.length(0));
        Check.due("9 two edits", 2, () -> p.version(0));
    }

    private static void fromEmptyToFullAndBack() {
        Proofpress p = Shop.withText("");
        for (int i = 0; i < 80; i++) {
            int count = i + 1;
            Check.due("3 character " + count, count, () -> p.insert(0, 0, 97 + count % 26));
            Check.due("7 length " + count, count, () -> p.length(0));
        }
        Check.thrown("3 the 81st", STATE, () -> p.insert(0, 0, 'a'));
        Check.due("9 the 81st counts as no edit", 80, () -> p.version(0));
        Check.due("8 the first that was put in is the last", 98, () -> p.codeAt(0, 79));
        for (int i = 79; i >= 0; i--) {
            int left = i;
            int code = 97 + (80 - left) % 26;
            Check.due("4 down to " + left, code, () -> p.delete(0, left));
        }
        Check.due("7 nothing is left", 0, () -> p.length(0));
        Check.due("9 all edits", 160, () -> p.version(0));
    }

    /** Spans of one, of two and of all characters, at the start and at the end of a text. */
    private static void frozenSpansAtTheEdges() {
        checkFrozen("abcd", 0, 1, "-----", "f---");
        checkFrozen("abcd", 0, 2, "-f---", "ff--");
        checkFrozen("abcd", 1, 3, "--f--", "-ff-");
        checkFrozen("abcd", 2, 4, "---f-", "--ff");
        checkFrozen("abcd", 3, 4, "-----", "---f");
        checkFrozen("abcd", 0, 4, "-fff-", "ffff");
        checkFrozen("a", 0, 1, "--", "f");
    }

    private static void checkFrozen(String text, int from, int to, String insertions, String deletions) {
        Proofpress p = Shop.withText(text);
        p.comment(0, from, to);
        Check.due("5 insertions at " + from + " to " + to, insertions, () -> bars(p, true));
        Check.due("5 deletions at " + from + " to " + to, deletions, () -> bars(p, false));
    }

    private static String bars(Proofpress p, boolean areInsertions) {
        StringBuilder bars = new StringBuilder();
        int end = areInsertions ? p.length(0) + 1 : p.length(0);
        for (int place = 0; place < end; place++) {
            bars.append(p.bar(0, place, areInsertions));
        }
        return bars.toString();
    }

    /** An insertion is barred by one comment with a character ahead and one behind, not by two that meet there. */
    private static void spansSideBySide() {
        Proofpress p = Shop.withText("abcdef");
        p.comment(0, 1, 3);
        p.comment(0, 3, 5);
        Check.due("5 insertions where two spans meet", "--f-f--", () -> bars(p, true));
        Check.due("5 deletions where two spans meet", "-ffff-", () -> bars(p, false));
        Check.due("3 where two spans meet", 7, () -> p.insert(0, 3, 'x'));
        Check.due("13 the first stays", 1, () -> p.spanFrom(0));
        Check.due("14 the first stays", 3, () -> p.spanTo(0));
        Check.due("13 the second moves", 4, () -> p.spanFrom(1));
        Check.due("14 the second moves", 6, () -> p.spanTo(1));
        Check.due("4 and between them it goes again", (int) 'x', () -> p.delete(0, 3));
        p.comment(0, 2, 4);
        Check.due("5 a third over both", "--fff--", () -> bars(p, true));
        p.answer(2);
        Check.due("5 the third is answered", "--f-f--", () -> bars(p, true));
        p.answer(0);
        Check.due("5 the first is answered", "----f--", () -> bars(p, true));
        Check.due("5 and its places are free", "---ff-", () -> bars(p, false));
    }

    private static void closingAtTheEdges() {
        Proofpress p = Shop.withText("a");
        p.close(0, 0);
        Check.due("5 closed at hour 0", 'c', () -> p.bar(0, 0, true));
        p.close(0, 1);
        Check.due("5 closing at hour 1", '-', () -> p.bar(0, 0, true));
        Check.due("3 in time", 2, () -> p.insert(0, 0, 'b'));
        p.pass(1);
        Check.thrown("3 at the closing hour", BARRED, () -> p.insert(0, 0, 'b'));
        Check.thrown("4 at the closing hour", BARRED, () -> p.delete(0, 0));
        p.addDocument();
        Shop.passTo(p, 998);
        Check.due("3 the hour before 999", 1, () -> p.insert(1, 0, 'b'));
        p.pass(1);
        Check.thrown("3 the hour 999", BARRED, () -> p.insert(1, 0, 'b'));
        Check.thrown("4 the hour 999", BARRED, () -> p.delete(1, 0));
        Check.due("6 it was 999", 999, () -> p.close(1, 999));
    }

    /** The greatest page of each sheet, perhaps an empty one, locks its last place, and not the one behind it. */
    private static void lockedPagesOfEachSheet() {
        int[] lengths = {1, 33, 33, 65, 65, 65};
        int[] sheets = {0, 0, 1, 0, 1, 2};
        int[] greatest = {3, 7, 5, 11, 9, 7};
        for (int i = 0; i < lengths.length; i++) {
            Proofpress p = Shop.withOrder(Shop.letters(lengths[i]), 1);
            Shop.type(p, 0, Shop.letters(80 - lengths[i]));
            p.print(0, sheets[i]);
            String what = "5 sheet " + sheets[i] + " of " + lengths[i];
            int last = 8 * greatest[i] + 7;
            Check.due(what + " locks page 0", 'l', () -> p.bar(0, 0, true));
            if (last < 80) {
                Check.due(what + " locks an insertion at " + last, 'l', () -> p.bar(0, last, true));
                Check.due(what + " locks a deletion at " + last, 'l', () -> p.bar(0, last, false));
                Check.due(what + " leaves the next page", '-', () -> p.bar(0, last + 1, true));
            } else {
                Check.due(what + " locks the end", 'l', () -> p.bar(0, 80, true));
                Check.due(what + " locks the last", 'l', () -> p.bar(0, 79, false));
            }
        }
    }

    private static void lockedByAnyOrder() {
        Proofpress p = Shop.withOrder("ab", 1);
        p.addDocument();
        Shop.type(p, 1, "ab");
        p.sign(1);
        p.order(0, 1, 5);
        p.order(1, 1, 5);
        Check.due("5 nothing on the press", '-', () -> p.bar(0, 0, true));
        p.print(1, 0);
        Check.due("5 the second order is of this document", 'l', () -> p.bar(0, 0, true));
        Check.due("5 and not of the other", '-', () -> p.bar(1, 0, true));
        p.pass(1);
        Check.due("5 it has left", '-', () -> p.bar(0, 0, true));
        p.print(2, 0);
        Check.due("5 the third order is of the other", 'l', () -> p.bar(1, 0, false));
        Check.due("5 and not of this document", '-', () -> p.bar(0, 0, false));
    }
}
