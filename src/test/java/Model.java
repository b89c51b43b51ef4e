import java.util.ArrayList;
import java.util.HashMap;
import java.util.List;
import java.util.Map;
import java.util.NoSuchElementException;

/** A second, slower program of the same document, written with lists and texts: Proofpress must answer alike. */
final class Model {

    private static final class Doc {
        final List<Integer> text = new ArrayList<>();
        List<Integer> proof;
        int version;
        int signed;
        int closing = 999;
    }

    private static final class Note {
        Doc doc;
        int from;
        int to;
        boolean open = true;
    }

    private static final class Job {
        Doc doc;
        int copies;
        int due;
        int paper;
        int plates;
        final Map<Integer, List<List<List<Integer>>>> prints = new HashMap<>();
        final Map<Integer, List<Integer>> plateOf = new HashMap<>();
    }

    private final List<Doc> docs = new ArrayList<>();
    private final List<Note> notes = new ArrayList<>();
    private final List<Job> jobs = new ArrayList<>();
    private int stockPaper;
    private int stockPlates;
    private int time;
    private Job pressJob;
    private int pressSheet;
    private int pressEnd;
    private List<Integer> pressPages;
    private List<List<Integer>> pressShows;

    private static void check(boolean ok, RuntimeException otherwise) {
        if (!ok) {
            throw otherwise;
        }
    }

    private static <T> T pick(List<T> list, int number) {
        check(number >= 0 && number < list.size(), new NoSuchElementException());
        return list.get(number);
    }

    int addDocument() {
        check(docs.size() < 3, new IllegalStateException());
        docs.add(new Doc());
        return docs.size() - 1;
    }

    int insert(int document, int place, int code) {
        char bar = bar(document, place, true);
        boolean known = code == 32 || code >= 'a' && code <= 'z' || code >= 128512 && code < 128528;
        check(known, new IllegalArgumentException());
        Doc d = docs.get(document);
        check(d.text.size() < 80, new IllegalStateException());
        check(bar == '-', new UnsupportedOperationException());
        d.text.add(place, code);
        for (Note n : notes) {
            if (n.doc == d && n.from >= place) {
                n.from++;
                n.to++;
            }
        }
        return ++d.version;
    }

    int delete(int document, int place) {
        check(bar(document, place, false) == '-', new UnsupportedOperationException());
        Doc d = docs.get(document);
        for (Note n : notes) {
            if (n.doc == d && n.from > place) {
                n.from--;
                n.to--;
            }
        }
        d.version++;
        return d.text.remove(place);
    }

    char bar(int document, int place, boolean isInsertion) {
        Doc d = pick(docs, document);
        check(place >= 0 && place <= d.text.size(), new IndexOutOfBoundsException());
        check(isInsertion || place < d.text.size(), new IndexOutOfBoundsException());
        if (time >= d.closing) {
            return 'c';
        }
        for (Note n : notes) {
            boolean behind = place >= n.from && place < n.to;
            boolean ahead = place - 1 >= n.from && place - 1 < n.to;
            if (n.open && n.doc == d && behind && (ahead || !isInsertion)) {
                return 'f';
            }
        }
        if (pressJob != null && pressJob.doc == d) {
            for (int page : pressPages) {
                if (page >= place / 8) {
                    return 'l';
                }
            }
        }
        return '-';
    }

    int close(int document, int hour) {
        Doc d = pick(docs, document);
        check(hour >= 0 && hour <= 999, new IllegalArgumentException());
        int before = d.closing;
        d.closing = hour;
        return before;
    }

    int length(int document) {
        return pick(docs, document).text.size();
    }

    int codeAt(int document, int place) {
        Doc d = pick(docs, document);
        check(place >= 0 && place < d.text.size(), new IndexOutOfBoundsException());
        return d.text.get(place);
    }

    int version(int document) {
        return pick(docs, document).version;
    }

    int comment(int document, int from, int to) {
        Doc d = pick(docs, document);
        check(from >= 0 && from < to && to <= d.text.size(), new IndexOutOfBoundsException());
        check(notes.size() < 8, new IllegalStateException());
        Note n = new Note();
        n.doc = d;
        n.from = from;
        n.to = to;
        notes.add(n);
        return notes.size() - 1;
    }

    private Note openNote(int comment) {
        Note n = pick(notes, comment);
        check(n.open, new IllegalStateException());
        return n;
    }

    private int openNotes(Doc d) {
        int count = 0;
        for (Note n : notes) {
            count += n.open && n.doc == d ? 1 : 0;
        }
        return count;
    }

    int answer(int comment) {
        Note n = openNote(comment);
        n.open = false;
        return openNotes(n.doc);
    }

    boolean isOpen(int comment) {
        return pick(notes, comment).open;
    }

    int spanFrom(int comment) {
        return openNote(comment).from;
    }

    int spanTo(int comment) {
        return openNote(comment).to;
    }

    int sign(int document) {
        Doc d = pick(docs, document);
        check(!d.text.isEmpty() && openNotes(d) == 0, new IllegalStateException());
        check(d.proof == null || d.signed != d.version, new IllegalStateException());
        d.proof = new ArrayList<>(d.text);
        d.signed = d.version;
        return sheetsOf(d);
    }

    private Doc proofed(int document) {
        Doc d = pick(docs, document);
        check(d.proof != null, new IllegalStateException());
        return d;
    }

    private static int sheetsOf(Doc d) {
        int sheets = 0;
        while (sheets * 32 < d.proof.size()) {
            sheets++;
        }
        return sheets;
    }

    private static List<Integer> pagesOn(Doc d, int sheet) {
        int n = 4 * sheetsOf(d);
        return List.of(n - 1 - 2 * sheet, 2 * sheet, 2 * sheet + 1, n - 2 - 2 * sheet);
    }

    private static List<List<Integer>> shows(Doc d, int sheet) {
        List<List<Integer>> shown = new ArrayList<>();
        for (int page : pagesOn(d, sheet)) {
            int from = Math.min(8 * page, d.proof.size());
            int to = Math.min(from + 8, d.proof.size());
            shown.add(new ArrayList<>(d.proof.subList(from, to)));
        }
        return shown;
    }

    int signed(int document) {
        return proofed(document).signed;
    }

    int sheets(int document) {
        return sheetsOf(proofed(document));
    }

    private static void checkSheet(Doc d, int sheet) {
        check(sheet >= 0 && sheet < sheetsOf(d), new IndexOutOfBoundsException());
    }

    int pageOn(int document, int sheet, int position) {
        Doc d = proofed(document);
        checkSheet(d, sheet);
        check(position >= 0 && position < 4, new IndexOutOfBoundsException());
        return pagesOn(d, sheet).get(position);
    }

    int shown(int document, int sheet, int index) {
        Doc d = proofed(document);
        checkSheet(d, sheet);
        check(index >= 0 && index < 32, new IndexOutOfBoundsException());
        List<Integer> page = shows(d, sheet).get(index / 8);
        return index % 8 < page.size() ? page.get(index % 8) : -1;
    }

    int shownByLog(int document, int sheet, int index) {
        return shown(document, sheet, index);
    }

    int supply(int paper, int plates) {
        check(paper >= 0 && paper <= 9999, new IllegalArgumentException());
        check(plates >= 0 && plates <= 99, new IllegalArgumentException());
        check(stockPaper + paper <= 99999, new IllegalStateException());
        check(stockPlates + plates <= 999, new IllegalStateException());
        stockPaper += paper;
        stockPlates += plates;
        return stockPaper;
    }

    int paper() {
        return stockPaper;
    }

    int plates() {
        return stockPlates;
    }

    int order(int document, int copies, int due) {
        Doc d = pick(docs, document);
        check(copies >= 1 && copies <= 500 && due >= 0 && due <= 999, new IllegalArgumentException());
        check(d.proof != null && jobs.size() < 6, new IllegalStateException());
        check(copies * sheetsOf(d) <= freePaper(), new UnsupportedOperationException());
        Job j = new Job();
        j.doc = d;
        j.copies = copies;
        j.due = due;
        jobs.add(j);
        return jobs.size() - 1;
    }

    private String states(Job j) {
        StringBuilder states = new StringBuilder();
        for (int s = 0; s < sheetsOf(j.doc); s++) {
            List<List<List<Integer>>> prints = j.prints.get(s);
            if (pressJob == j && pressSheet == s) {
                states.append('o');
            } else if (prints == null) {
                states.append('w');
            } else {
                states.append(prints.get(prints.size() - 1).equals(shows(j.doc, s)) ? 'p' : 's');
            }
        }
        return states.toString();
    }

    private static int count(String states, String which) {
        return (int) states.chars().filter(c -> which.indexOf(c) >= 0).count();
    }

    int needs(int order) {
        Job j = pick(jobs, order);
        return j.copies * count(states(j), "ws");
    }

    int freePaper() {
        int free = stockPaper;
        for (int i = 0; i < jobs.size(); i++) {
            free -= needs(i);
        }
        return free;
    }

    char stateOf(int order, int sheet) {
        Job j = pick(jobs, order);
        checkSheet(j.doc, sheet);
        return states(j).charAt(sheet);
    }

    boolean isDone(int order) {
        return states(pick(jobs, order)).matches("p+");
    }

    int lateBy(int order) {
        return isDone(order) ? 0 : Math.max(0, time - jobs.get(order).due);
    }

    int nextOrder() {
        List<Integer> open = new ArrayList<>();
        for (int i = 0; i < jobs.size(); i++) {
            if (!isDone(i)) {
                open.add(i);
            }
        }
        check(!open.isEmpty(), new IllegalStateException());
        open.sort((a, b) -> jobs.get(a).due != jobs.get(b).due ? jobs.get(a).due - jobs.get(b).due
                : jobs.get(a).copies != jobs.get(b).copies ? jobs.get(b).copies - jobs.get(a).copies : a - b);
        return open.get(0);
    }

    int nextSheet(int order) {
        String open = states(pick(jobs, order)).replace('s', 'w');
        check(open.indexOf('w') >= 0, new IllegalStateException());
        return open.indexOf('w');
    }

    int print(int order, int sheet) {
        Job j = pick(jobs, order);
        checkSheet(j.doc, sheet);
        check(pressJob == null && states(j).charAt(sheet) != 'p', new IllegalStateException());
        List<Integer> plate = new ArrayList<>();
        for (List<Integer> page : shows(j.doc, sheet)) {
            for (int code : page) {
                plate.add(0, code);
            }
        }
        boolean takesPlate = !plate.equals(j.plateOf.get(sheet));
        check(stockPaper >= j.copies && (!takesPlate || stockPlates > 0), new UnsupportedOperationException());
        stockPaper -= j.copies;
        j.paper += j.copies;
        stockPlates -= takesPlate ? 1 : 0;
        j.plates += takesPlate ? 1 : 0;
        j.plateOf.put(sheet, plate);
        pressJob = j;
        pressSheet = sheet;
        pressEnd = time + 1 + j.copies / 100;
        pressPages = pagesOn(j.doc, sheet);
        pressShows = shows(j.doc, sheet);
        return pressEnd;
    }

    int onPress() {
        return jobs.indexOf(pressJob);
    }

    int pass(int hours) {
        check(hours >= 1 && hours <= 100, new IllegalArgumentException());
        check(time + hours <= 999, new IllegalStateException());
        int left = 0;
        for (int i = 0; i < hours; i++) {
            time++;
            if (pressJob != null && time == pressEnd) {
                pressJob.prints.computeIfAbsent(pressSheet, s -> new ArrayList<>()).add(pressShows);
                pressJob = null;
                left++;
            }
        }
        return left;
    }

    int hour() {
        return time;
    }

    private List<Integer> plate(int order, int sheet) {
        Job j = pick(jobs, order);
        checkSheet(j.doc, sheet);
        check(j.plateOf.containsKey(sheet), new IllegalStateException());
        return j.plateOf.get(sheet);
    }

    int plateLength(int order, int sheet) {
        return plate(order, sheet).size();
    }

    int plateAt(int order, int sheet, int index) {
        List<Integer> plate = plate(order, sheet);
        check(index >= 0 && index < plate.size(), new IllegalStateException());
        return plate.get(index);
    }

    int platesFor(int order) {
        return pick(jobs, order).plates;
    }

    int wasted(int order) {
        Job j = pick(jobs, order);
        int wasted = 0;
        for (List<?> prints : j.prints.values()) {
            wasted += j.copies * (prints.size() - 1);
        }
        return wasted;
    }

    long cost(int order) {
        Job j = pick(jobs, order);
        return 2L * j.paper + 30L * j.plates;
    }

    float goodShare() {
        check(!jobs.isEmpty(), new ArithmeticException());
        StringBuilder all = new StringBuilder();
        for (Job j : jobs) {
            all.append(states(j));
        }
        return (float) count(all.toString(), "p") / (float) all.length();
    }

    double meanLength() {
        check(!docs.isEmpty(), new ArithmeticException());
        double sum = 0;
        for (Doc d : docs) {
            sum += d.text.size();
        }
        return sum / (double) docs.size();
    }
}
