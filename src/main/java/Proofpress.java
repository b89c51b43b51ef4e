import java.util.NoSuchElementException;

/** A print shop with its editor. The document's promises are named by their numbers. */
public final class Proofpress {

    private static final int MOST_CALLS = 512;
    private static final int MOST_DOCUMENTS = 3;
    private static final int MOST_CHARACTERS = 80;
    private static final int MOST_COMMENTS = 8;
    private static final int MOST_ORDERS = 6;
    private static final int MOST_COPIES = 500;
    private static final int LAST_HOUR = 999;
    private static final int MOST_HOURS_A_PASS = 100;

    private static final int MOST_PAPER_A_SUPPLY = 9999;
    private static final int MOST_PLATES_A_SUPPLY = 99;
    private static final int MOST_PAPER = 99999;
    private static final int MOST_PLATES = 999;
    private static final int COST_OF_PAPER = 2;
    private static final int COST_OF_PLATE = 30;
    private static final int COPIES_AN_HOUR = 100;

    private static final int BLANK = 32;
    private static final int FIRST_LETTER = 97;
    private static final int LAST_LETTER = 122;
    private static final int FIRST_SYMBOL = 128512;
    private static final int LAST_SYMBOL = 128527;

    private static final int PAGE_SIZE = 8;
    private static final int PAGES_A_SHEET = 4;
    private static final int SHEET_SIZE = PAGE_SIZE * PAGES_A_SHEET;
    private static final int MOST_SHEETS = (MOST_CHARACTERS + SHEET_SIZE - 1) / SHEET_SIZE;
    private static final int NO_CODE = -1;
    private static final int NO_ORDER = -1;
    private static final int NO_VERSION = -1;

    private static final char NOT_BARRED = '-';
    private static final char BARRED_BY_CLOSING = 'c';
    private static final char BARRED_BY_COMMENT = 'f';
    private static final char BARRED_BY_PRESS = 'l';

    private static final char ON_PRESS = 'o';
    private static final char WAITING = 'w';
    private static final char GOOD = 'p';
    private static final char STALE = 's';

    private final Document[] documents;
    private int documentCount;
    private final Comment[] comments;
    private int commentCount;
    private final Order[] orders;
    private int orderCount;
    private final Log log;
    private final Press press;
    private int paperStock;
    private int plateStock;
    private int now;

    /** Promise 1. */
    public Proofpress() {
        documents = new Document[MOST_DOCUMENTS];
        comments = new Comment[MOST_COMMENTS];
        orders = new Order[MOST_ORDERS];
        log = new Log();
        press = new Press();
    }

    // Texts and edits

    /** Promise 2. */
    public int addDocument() throws IllegalStateException {
        if (documentCount >= MOST_DOCUMENTS) {
            throw new IllegalStateException("there are 3 documents");
        }
        int number = documentCount;
        documents[number] = new Document(number);
        documentCount++;
        return number;
    }

    /** Promise 3. */
    public int insert(int document, int place, int code)
            throws NoSuchElementException, IndexOutOfBoundsException, IllegalArgumentException,
            IllegalStateException, UnsupportedOperationException {
        Document edited = documentOf(document);
        requirePlaceOfEdit(edited, place, true);
        if (!isCode(code)) {
            throw new IllegalArgumentException("no such code");
        }
        if (edited.text.size >= MOST_CHARACTERS) {
            throw new IllegalStateException("the text has 80 characters");
        }
        requireNotBarred(edited, place, true);
        edited.text.putIn(place, code);
        edited.version++;
        moveSpansForInsertion(edited, place);
        log.addInsertion(document, place, code);
        return edited.version;
    }

    /** Promise 4. */
    public int delete(int document, int place)
            throws NoSuchElementException, IndexOutOfBoundsException, UnsupportedOperationException {
        Document edited = documentOf(document);
        requirePlaceOfEdit(edited, place, false);
        requireNotBarred(edited, place, false);
        int code = edited.text.at(place);
        edited.text.takeOut(place);
        edited.version++;
        moveSpansForDeletion(edited, place);
        log.addDeletion(document, place);
        return code;
    }

    /** Promise 5. */
    public char bar(int document, int place, boolean isInsertion)
            throws NoSuchElementException, IndexOutOfBoundsException {
        Document edited = documentOf(document);
        requirePlaceOfEdit(edited, place, isInsertion);
        return barOf(edited, place, isInsertion);
    }

    /** Promise 6. */
    public int close(int document, int hour) throws NoSuchElementException, IllegalArgumentException {
        Document closed = documentOf(document);
        if (hour < 0 || hour > LAST_HOUR) {
            throw new IllegalArgumentException("the hour is out of range");
        }
        int before = closed.closingHour;
        closed.closingHour = hour;
        return before;
    }

    /** Promise 7. */
    public int length(int document) throws NoSuchElementException {
        return documentOf(document).text.size;
    }

    /** Promise 8. */
    public int codeAt(int document, int place) throws NoSuchElementException, IndexOutOfBoundsException {
        Text text = documentOf(document).text;
        if (place < 0 || place >= text.size) {
            throw new IndexOutOfBoundsException("no such place");
        }
        return text.at(place);
    }

    /** Promise 9. */
    public int version(int document) throws NoSuchElementException {
        return documentOf(document).version;
    }

    private Document documentOf(int document) {
        if (document < 0 || document >= documentCount) {
            throw new NoSuchElementException("no such document");
        }
        return documents[document];
    }

    private static boolean isCode(int code) {
        return code == BLANK
                || code >= FIRST_LETTER && code <= LAST_LETTER
                || code >= FIRST_SYMBOL && code <= LAST_SYMBOL;
    }

    private static void requirePlaceOfEdit(Document document, int place, boolean isInsertion) {
        int end = isInsertion ? document.text.size + 1 : document.text.size;
        if (place < 0 || place >= end) {
            throw new IndexOutOfBoundsException("no such place");
        }
    }

    private void requireNotBarred(Document document, int place, boolean isInsertion) {
        if (barOf(document, place, isInsertion) != NOT_BARRED) {
            throw new UnsupportedOperationException("the edit is barred");
        }
    }

    private char barOf(Document document, int place, boolean isInsertion) {
        if (now >= document.closingHour) {
            return BARRED_BY_CLOSING;
        }
        if (isFrozen(document, place, isInsertion)) {
            return BARRED_BY_COMMENT;
        }
        if (press.locks(document, place)) {
            return BARRED_BY_PRESS;
        }
        return NOT_BARRED;
    }

    private boolean isFrozen(Document document, int place, boolean isInsertion) {
        for (int i = 0; i < commentCount; i++) {
            if (comments[i].isOpenOn(document) && comments[i].freezes(place, isInsertion)) {
                return true;
            }
        }
        return false;
    }

    private void moveSpansForInsertion(Document document, int place) {
        for (int i = 0; i < commentCount; i++) {
            if (comments[i].isOpenOn(document) && place <= comments[i].from) {
                comments[i].moveBy(1);
            }
        }
    }

    private void moveSpansForDeletion(Document document, int place) {
        for (int i = 0; i < commentCount; i++) {
            if (comments[i].isOpenOn(document) && place < comments[i].from) {
                comments[i].moveBy(-1);
            }
        }
    }

    // Comments

    /** Promise 10. */
    public int comment(int document, int from, int to)
            throws NoSuchElementException, IndexOutOfBoundsException, IllegalStateException {
        Document discussed = documentOf(document);
        if (from < 0 || from >= to || to > discussed.text.size) {
            throw new IndexOutOfBoundsException("no such span");
        }
        if (commentCount >= MOST_COMMENTS) {
            throw new IllegalStateException("there are 8 comments");
        }
        int number = commentCount;
        comments[number] = new Comment(discussed, from, to);
        commentCount++;
        return number;
    }

    /** Promise 11. */
    public int answer(int comment) throws NoSuchElementException, IllegalStateException {
        Comment answered = openCommentOf(comment);
        answered.open = false;
        return openCommentsOn(answered.document);
    }

    /** Promise 12. */
    public boolean isOpen(int comment) throws NoSuchElementException {
        return commentOf(comment).open;
    }

    /** Promise 13. */
    public int spanFrom(int comment) throws NoSuchElementException, IllegalStateException {
        return openCommentOf(comment).from;
    }

    /** Promise 14. */
    public int spanTo(int comment) throws NoSuchElementException, IllegalStateException {
        return openCommentOf(comment).to;
    }

    private Comment commentOf(int comment) {
        if (comment < 0 || comment >= commentCount) {
            throw new NoSuchElementException("no such comment");
        }
        return comments[comment];
    }

    private Comment openCommentOf(int comment) {
        Comment found = commentOf(comment);
        if (!found.open) {
            throw new IllegalStateException("the comment is not open");
        }
        return found;
    }

    private int openCommentsOn(Document document) {
        int count = 0;
        for (int i = 0; i < commentCount; i++) {
            if (comments[i].isOpenOn(document)) {
                count++;
            }
        }
        return count;
    }

    // Proofs

    /** Promise 15. */
    public int sign(int document) throws NoSuchElementException, IllegalStateException {
        Document proofed = documentOf(document);
        if (proofed.text.size == 0) {
            throw new IllegalStateException("there is no text");
        }
        if (openCommentsOn(proofed) > 0) {
            throw new IllegalStateException("a comment is open");
        }
        if (proofed.version == proofed.proofVersion) {
            throw new IllegalStateException("this version is signed");
        }
        proofed.makeProof();
        log.addSignature(document);
        return proofed.proofSheets;
    }

    /** Promise 16. */
    public int signed(int document) throws NoSuchElementException, IllegalStateException {
        return proofedDocumentOf(document).proofVersion;
    }

    /** Promise 17. */
    public int sheets(int document) throws NoSuchElementException, IllegalStateException {
        return proofedDocumentOf(document).proofSheets;
    }

    /** Promise 18. */
    public int pageOn(int document, int sheet, int position)
            throws NoSuchElementException, IllegalStateException, IndexOutOfBoundsException {
        Document proofed = proofedDocumentOf(document);
        requireSheet(proofed, sheet);
        if (position < 0 || position >= PAGES_A_SHEET) {
            throw new IndexOutOfBoundsException("no such position");
        }
        return Layout.pageAt(proofed.proofSheets, sheet, position);
    }

    /** Promise 19. */
    public int shown(int document, int sheet, int index)
            throws NoSuchElementException, IllegalStateException, IndexOutOfBoundsException {
        Document proofed = proofedDocumentOf(document);
        requireSheet(proofed, sheet);
        requireIndexOnSheet(index);
        return proofed.codeOnSheet(sheet, index);
    }

    /** Promise 20. */
    public int shownByLog(int document, int sheet, int index)
            throws NoSuchElementException, IllegalStateException, IndexOutOfBoundsException {
        Document proofed = proofedDocumentOf(document);
        requireSheet(proofed, sheet);
        requireIndexOnSheet(index);
        return log.codeOnSheet(document, sheet, index);
    }

    private Document proofedDocumentOf(int document) {
        Document found = documentOf(document);
        if (!found.hasProof()) {
            throw new IllegalStateException("the document has no proof");
        }
        return found;
    }

    private static void requireSheet(Document document, int sheet) {
        if (sheet < 0 || sheet >= document.proofSheets) {
            throw new IndexOutOfBoundsException("no such sheet");
        }
    }

    private static void requireIndexOnSheet(int index) {
        if (index < 0 || index >= SHEET_SIZE) {
            throw new IndexOutOfBoundsException("no such index");
        }
    }

    // Stock

    /** Promise 21. */
    public int supply(int paper, int plates) throws IllegalArgumentException, IllegalStateException {
        if (paper < 0 || paper > MOST_PAPER_A_SUPPLY || plates < 0 || plates > MOST_PLATES_A_SUPPLY) {
            throw new IllegalArgumentException("a number is out of range");
        }
        if (paperStock + paper > MOST_PAPER || plateStock + plates > MOST_PLATES) {
            throw new IllegalStateException("the stock would be too large");
        }
        paperStock += paper;
        plateStock += plates;
        return paperStock;
    }

    /** Promise 22. */
    public int paper() {
        return paperStock;
    }

    /** Promise 23. */
    public int plates() {
        return plateStock;
    }

    // Orders

    /** Promise 24. */
    public int order(int document, int copies, int due)
            throws NoSuchElementException, IllegalArgumentException, IllegalStateException,
            UnsupportedOperationException {
        Document ordered = documentOf(document);
        if (copies < 1 || copies > MOST_COPIES || due < 0 || due > LAST_HOUR) {
            throw new IllegalArgumentException("a number is out of range");
        }
        if (!ordered.hasProof() || orderCount >= MOST_ORDERS) {
            throw new IllegalStateException("the document has no proof, or there are 6 orders");
        }
        if (copies * ordered.proofSheets > freePaper()) {
            throw new UnsupportedOperationException("there is not enough free paper");
        }
        int number = orderCount;
        orders[number] = new Order(number, ordered, copies, due);
        orderCount++;
        return number;
    }

    /** Promise 25. */
    public int needs(int order) throws NoSuchElementException {
        return paperNeededBy(orderOf(order));
    }

    /** Promise 26. */
    public int freePaper() {
        int free = paperStock;
        for (int i = 0; i < orderCount; i++) {
            free -= paperNeededBy(orders[i]);
        }
        return free;
    }

    /** Promise 27. */
    public char stateOf(int order, int sheet) throws NoSuchElementException, IndexOutOfBoundsException {
        Order asked = orderOf(order);
        requireSheet(asked.document, sheet);
        return stateOn(asked, sheet);
    }

    /** Promise 28. */
    public boolean isDone(int order) throws NoSuchElementException {
        return isFinished(orderOf(order));
    }

    /** Promise 29. */
    public int lateBy(int order) throws NoSuchElementException {
        Order asked = orderOf(order);
        if (now <= asked.due || isFinished(asked)) {
            return 0;
        }
        return now - asked.due;
    }

    /** Promise 30. */
    public int nextOrder() throws IllegalStateException {
        Order first = null;
        for (int i = 0; i < orderCount; i++) {
            if (!isFinished(orders[i]) && (first == null || orders[i].isMoreUrgentThan(first))) {
                first = orders[i];
            }
        }
        if (first == null) {
            throw new IllegalStateException("all orders are done");
        }
        return first.number;
    }

    /** Promise 31. */
    public int nextSheet(int order) throws NoSuchElementException, IllegalStateException {
        Order asked = orderOf(order);
        int sheets = asked.document.proofSheets;
        for (int sheet = 0; sheet < sheets; sheet++) {
            if (isToBePrinted(stateOn(asked, sheet))) {
                return sheet;
            }
        }
        throw new IllegalStateException("no sheet waits or is stale");
    }

    private Order orderOf(int order) {
        if (order < 0 || order >= orderCount) {
            throw new NoSuchElementException("no such order");
        }
        return orders[order];
    }

    private char stateOn(Order order, int sheet) {
        if (press.holds(order, sheet)) {
            return ON_PRESS;
        }
        SheetRecord record = order.records[sheet];
        if (!record.isPrinted) {
            return WAITING;
        }
        return record.isPrintedAs(order.document, sheet) ? GOOD : STALE;
    }

    private static boolean isToBePrinted(char state) {
        return state == WAITING || state == STALE;
    }

    private int goodSheetsOf(Order order) {
        int sheets = order.document.proofSheets;
        int count = 0;
        for (int sheet = 0; sheet < sheets; sheet++) {
            if (stateOn(order, sheet) == GOOD) {
                count++;
            }
        }
        return count;
    }

    private boolean isFinished(Order order) {
        return goodSheetsOf(order) == order.document.proofSheets;
    }

    private int paperNeededBy(Order order) {
        int sheets = order.document.proofSheets;
        int count = 0;
        for (int sheet = 0; sheet < sheets; sheet++) {
            if (isToBePrinted(stateOn(order, sheet))) {
                count++;
            }
        }
        return order.copies * count;
    }

    // Printing

    /** Promise 32. */
    public int print(int order, int sheet)
            throws NoSuchElementException, IndexOutOfBoundsException, IllegalStateException,
            UnsupportedOperationException {
        Order printed = orderOf(order);
        requireSheet(printed.document, sheet);
        if (press.order != null || stateOn(printed, sheet) == GOOD) {
            throw new IllegalStateException("a sheet is on the press, or this one is good");
        }
        SheetRecord record = printed.records[sheet];
        boolean takesPlate = !record.hasPlateFor(printed.document, sheet);
        if (paperStock < printed.copies || takesPlate && plateStock < 1) {
            throw new UnsupportedOperationException("there is not enough paper or no plate");
        }
        paperStock -= printed.copies;
        printed.paperTaken += printed.copies;
        if (takesPlate) {
            plateStock--;
            printed.platesTaken++;
            record.makePlate(printed.document, sheet);
        }
        press.load(printed, sheet, now + 1 + printed.copies / COPIES_AN_HOUR);
        return press.leavingHour;
    }

    /** Promise 33. */
    public int onPress() {
        return press.order == null ? NO_ORDER : press.order.number;
    }

    /** Promise 34. */
    public int pass(int hours) throws IllegalArgumentException, IllegalStateException {
        if (hours < 1 || hours > MOST_HOURS_A_PASS) {
            throw new IllegalArgumentException("the number of hours is out of range");
        }
        if (now + hours > LAST_HOUR) {
            throw new IllegalStateException("the hour would be too great");
        }
        now += hours;
        if (press.order == null || press.leavingHour > now) {
            return 0;
        }
        press.unload();
        return 1;
    }

    /** Promise 35. */
    public int hour() {
        return now;
    }

    /** Promise 36. */
    public int plateLength(int order, int sheet)
            throws NoSuchElementException, IndexOutOfBoundsException, IllegalStateException {
        return platedRecordOf(order, sheet).plateSize;
    }

    /** Promise 37. */
    public int plateAt(int order, int sheet, int index)
            throws NoSuchElementException, IndexOutOfBoundsException, IllegalStateException {
        SheetRecord record = platedRecordOf(order, sheet);
        if (index < 0 || index >= record.plateSize) {
            throw new IllegalStateException("no such index");
        }
        return record.plate[index];
    }

    private SheetRecord platedRecordOf(int order, int sheet) {
        Order asked = orderOf(order);
        requireSheet(asked.document, sheet);
        SheetRecord record = asked.records[sheet];
        if (!record.hasPlate) {
            throw new IllegalStateException("the sheet never had a plate");
        }
        return record;
    }

    // Accounts

    /** Promise 38. */
    public int platesFor(int order) throws NoSuchElementException {
        return orderOf(order).platesTaken;
    }

    /** Promise 39. */
    public int wasted(int order) throws NoSuchElementException {
        return orderOf(order).paperWasted;
    }

    /** Promise 40. */
    public long cost(int order) throws NoSuchElementException {
        Order asked = orderOf(order);
        return (long) COST_OF_PAPER * asked.paperTaken + (long) COST_OF_PLATE * asked.platesTaken;
    }

    /** Promise 41. */
    public float goodShare() throws ArithmeticException {
        int good = 0;
        int all = 0;
        for (int i = 0; i < orderCount; i++) {
            good += goodSheetsOf(orders[i]);
            all += orders[i].document.proofSheets;
        }
        if (all == 0) {
            throw new ArithmeticException("there are no orders");
        }
        return (float) good / (float) all;
    }

    /** Promise 42. */
    public double meanLength() throws ArithmeticException {
        if (documentCount == 0) {
            throw new ArithmeticException("there are no documents");
        }
        int sum = 0;
        for (int i = 0; i < documentCount; i++) {
            sum += documents[i].text.size;
        }
        return (double) sum / (double) documentCount;
    }

    /** How pages lie on sheets. */
    private static final class Layout {

        static int sheetCount(int characters) {
            int pages = (characters + PAGE_SIZE - 1) / PAGE_SIZE;
            return (pages + PAGES_A_SHEET - 1) / PAGES_A_SHEET;
        }

        static int pageAt(int sheetCount, int sheet, int position) {
            int pages = PAGES_A_SHEET * sheetCount;
            switch (position) {
                case 0:
                    return pages - 1 - 2 * sheet;
                case 1:
                    return 2 * sheet;
                case 2:
                    return 2 * sheet + 1;
                default:
                    return pages - 2 - 2 * sheet;
            }
        }

        static int greatestPage(int sheetCount, int sheet) {
            int greatest = 0;
            for (int position = 0; position < PAGES_A_SHEET; position++) {
                greatest = Math.max(greatest, pageAt(sheetCount, sheet, position));
            }
            return greatest;
        }
    }

    /** A row of characters. */
    private static final class Text {

        private final int[] codes;
        private int size;

        Text() {
            codes = new int[MOST_CHARACTERS];
        }

        int at(int place) {
            return place >= 0 && place < size ? codes[place] : NO_CODE;
        }

        void putIn(int place, int code) {
            if (place < 0 || place > size || size >= MOST_CHARACTERS) {
                return;
            }
            for (int i = size; i > place; i--) {
                codes[i] = codes[i - 1];
            }
            codes[place] = code;
            size++;
        }

        void takeOut(int place) {
            if (place < 0 || place >= size) {
                return;
            }
            size--;
            for (int i = place; i < size; i++) {
                codes[i] = codes[i + 1];
            }
        }

        void become(Text other) {
            size = other.size;
            for (int i = 0; i < size; i++) {
                codes[i] = other.codes[i];
            }
        }
    }

    /** A document with its text and its proof. */
    private static final class Document {

        private final int number;
        private final Text text;
        private final Text proof;
        private int version;
        private int proofVersion;
        private int proofSheets;
        private int closingHour;

        Document(int number) {
            this.number = number;
            text = new Text();
            proof = new Text();
            proofVersion = NO_VERSION;
            closingHour = LAST_HOUR;
        }

        boolean hasProof() {
            return proofVersion != NO_VERSION;
        }

        void makeProof() {
            proof.become(text);
            proofVersion = version;
            proofSheets = Layout.sheetCount(proof.size);
        }

        int codeOnSheet(int sheet, int index) {
            int page = Layout.pageAt(proofSheets, sheet, index / PAGE_SIZE);
            return proof.at(PAGE_SIZE * page + index % PAGE_SIZE);
        }
    }

    /** A comment on a span of a document. */
    private static final class Comment {

        private final Document document;
        private int from;
        private int to;
        private boolean open;

        Comment(Document document, int from, int to) {
            this.document = document;
            this.from = from;
            this.to = to;
            open = true;
        }

        boolean isOpenOn(Document asked) {
            return open && document == asked;
        }

        boolean freezes(int place, boolean isInsertion) {
            // An insertion in front of the first character of the span stays outside of it.
            int firstFrozen = isInsertion ? from + 1 : from;
            return place >= firstFrozen && place < to;
        }

        void moveBy(int places) {
            from += places;
            to += places;
        }
    }

    /** All edits and signatures in the order in which they were made. */
    private static final class Log {

        private static final int INSERTION = 0;
        private static final int DELETION = 1;
        private static final int SIGNATURE = 2;

        private final int[] kinds;
        private final int[] documents;
        private final int[] places;
        private final int[] codes;
        private int size;

        Log() {
            kinds = new int[MOST_CALLS];
            documents = new int[MOST_CALLS];
            places = new int[MOST_CALLS];
            codes = new int[MOST_CALLS];
        }

        void addInsertion(int document, int place, int code) {
            add(INSERTION, document, place, code);
        }

        void addDeletion(int document, int place) {
            add(DELETION, document, place, NO_CODE);
        }

        void addSignature(int document) {
            add(SIGNATURE, document, 0, NO_CODE);
        }

        private void add(int kind, int document, int place, int code) {
            // Only a call behind the last one that is promised can find the log full.
            if (size >= MOST_CALLS) {
                return;
            }
            kinds[size] = kind;
            documents[size] = document;
            places[size] = place;
            codes[size] = code;
            size++;
        }

        int codeOnSheet(int document, int sheet, int index) {
            int end = lastSignature(document);
            int characters = charactersBefore(end, document);
            int page = Layout.pageAt(Layout.sheetCount(characters), sheet, index / PAGE_SIZE);
            int place = PAGE_SIZE * page + index % PAGE_SIZE;
            if (place < 0 || place >= characters) {
                return NO_CODE;
            }
            return codeBefore(end, document, place);
        }

        private int lastSignature(int document) {
            for (int i = size - 1; i >= 0; i--) {
                if (documents[i] == document && kinds[i] == SIGNATURE) {
                    return i;
                }
            }
            return 0;
        }

        private int charactersBefore(int end, int document) {
            int count = 0;
            for (int i = 0; i < end; i++) {
                if (documents[i] == document && kinds[i] == INSERTION) {
                    count++;
                } else if (documents[i] == document && kinds[i] == DELETION) {
                    count--;
                }
            }
            return count;
        }

        /** Follows the character back to its insertion: each edit tells where it stood before. */
        private int codeBefore(int end, int document, int place) {
            int stood = place;
            for (int i = end - 1; i >= 0; i--) {
                if (documents[i] != document) {
                    continue;
                }
                if (kinds[i] == INSERTION && places[i] == stood) {
                    return codes[i];
                }
                if (kinds[i] == INSERTION && places[i] < stood) {
                    stood--;
                } else if (kinds[i] == DELETION && places[i] <= stood) {
                    stood++;
                }
            }
            return NO_CODE;
        }
    }

    /** An order with what was printed for each of its sheets. */
    private static final class Order {

        private final int number;
        private final Document document;
        private final int copies;
        private final int due;
        private final SheetRecord[] records;
        private int paperTaken;
        private int paperWasted;
        private int platesTaken;

        Order(int number, Document document, int copies, int due) {
            this.number = number;
            this.document = document;
            this.copies = copies;
            this.due = due;
            records = new SheetRecord[MOST_SHEETS];
            for (int sheet = 0; sheet < MOST_SHEETS; sheet++) {
                records[sheet] = new SheetRecord();
            }
        }

        boolean isMoreUrgentThan(Order other) {
            return due < other.due || due == other.due && copies > other.copies;
        }

        void takePrinted(int sheet, int[] image) {
            SheetRecord record = records[sheet];
            if (record.isPrinted) {
                paperWasted += copies;
            }
            record.takePrinted(image);
        }
    }

    /** What was printed last for a sheet of an order, and its last plate. */
    private static final class SheetRecord {

        private final int[] printed;
        private boolean isPrinted;
        private final int[] plate;
        private int plateSize;
        private boolean hasPlate;

        SheetRecord() {
            printed = new int[SHEET_SIZE];
            plate = new int[SHEET_SIZE];
        }

        void takePrinted(int[] image) {
            for (int i = 0; i < SHEET_SIZE; i++) {
                printed[i] = image[i];
            }
            isPrinted = true;
        }

        boolean isPrintedAs(Document document, int sheet) {
            for (int i = 0; i < SHEET_SIZE; i++) {
                if (printed[i] != document.codeOnSheet(sheet, i)) {
                    return false;
                }
            }
            return true;
        }

        void makePlate(Document document, int sheet) {
            plateSize = 0;
            for (int i = SHEET_SIZE - 1; i >= 0; i--) {
                int code = document.codeOnSheet(sheet, i);
                if (code != NO_CODE) {
                    plate[plateSize] = code;
                    plateSize++;
                }
            }
            hasPlate = true;
        }

        boolean hasPlateFor(Document document, int sheet) {
            int matched = 0;
            for (int i = SHEET_SIZE - 1; i >= 0; i--) {
                int code = document.codeOnSheet(sheet, i);
                if (code == NO_CODE) {
                    continue;
                }
                if (matched >= plateSize || plate[matched] != code) {
                    return false;
                }
                matched++;
            }
            return hasPlate && matched == plateSize;
        }
    }

    /** The press with the sheet that is on it. */
    private static final class Press {

        private Order order;
        private int sheet;
        private int leavingHour;
        private int greatestPage;
        private final int[] image;

        Press() {
            image = new int[SHEET_SIZE];
        }

        boolean holds(Order asked, int askedSheet) {
            return order != null && order == asked && sheet == askedSheet;
        }

        boolean locks(Document document, int place) {
            return order != null && order.document == document && greatestPage >= place / PAGE_SIZE;
        }

        void load(Order loaded, int loadedSheet, int hourOfLeaving) {
            order = loaded;
            sheet = loadedSheet;
            leavingHour = hourOfLeaving;
            // A later proof may have fewer sheets: what the sheet locks is fixed here.
            greatestPage = Layout.greatestPage(loaded.document.proofSheets, loadedSheet);
            for (int i = 0; i < SHEET_SIZE; i++) {
                image[i] = loaded.document.codeOnSheet(loadedSheet, i);
            }
        }

        void unload() {
            if (order != null) {
                order.takePrinted(sheet, image);
                order = null;
            }
        }
    }
}
