/** What a window and its frames show, and the one history that they have together. */
public final class JointHistory {
    public static final int BLANK = -1;
    public static final int NO_FRAME = -2;
    public static final int BAD = -3;
    public static final int HIDDEN = -4;
    public static final int FULL = -5;
    public static final int FORBIDDEN = -6;
    public static final int NONE = -7;

    private static final int PAGES = 32;
    private static final int URLS = 256;
    private static final int URLS_PER_HOST = 64;
    private static final int URLS_PER_PAGE = 8;
    private static final int ONE_PAGE_HOST = 3;
    private static final int MOST_DETOURS = 4;
    private static final int FIRST_OPAQUE = 4;
    private static final int FULL_ROOM = 36;
    private static final int LAST_STEP = 0x7fffffff;
    private static final long HIDDEN_STATE = 1L << 40;

    // The window, the frames of its documents, and the frames of theirs.
    private static final int LEVELS = 3;

    // At most 35 entries stand when a call begins to add some, and it adds at most five:
    // one of the window, two of its new frames, and one of a frame in each of these.
    // No navigable is without an entry, and no document either once a call has ended.
    private static final int ROWS = 40;

    private enum Kind { CONTENT, DETOUR, FAULT }

    private static final class Answer {
        Kind kind = Kind.CONTENT;
        int first = NO_FRAME;
        int second = NO_FRAME;
        boolean strict;
        int target;
    }

    private static final class Navigable {
        final int number;
        boolean there;
        int level;
        Document above;

        Navigable(int number) {
            this.number = number;
        }
    }

    private static final class Document {
        boolean there;
        Navigable owner;
        int origin;
        boolean sandboxed;
        Navigable first;
        Navigable second;
    }

    private static final class Entry {
        boolean there;
        Navigable owner;
        int step;
        int url;
        int state;
        Document document;
    }

    private final Answer[] answers = new Answer[PAGES];
    private final Navigable[] navigables = new Navigable[ROWS];
    private final Document[] documents = new Document[ROWS];
    private final Entry[] rows = new Entry[ROWS];
    private final int[] usedSteps = new int[ROWS];
    private int presentStep;
    private int pops;
    private int hashes;
    private int opaques;

    public JointHistory() {
        for (int page = 0; page < PAGES; page++) {
            answers[page] = new Answer();
        }
        for (int i = 0; i < ROWS; i++) {
            navigables[i] = new Navigable(i);
            documents[i] = new Document();
            rows[i] = new Entry();
        }
        Navigable window = navigables[0];
        window.there = true;
        addEntry(window, 0, BLANK, 0, load(window, BLANK, 0));
    }

    public boolean content(int page, int a, int b, boolean strict) {
        if (!isPage(page) || !isFrameChoice(a) || !isFrameChoice(b)) {
            return false;
        }
        Answer answer = answers[page];
        answer.kind = Kind.CONTENT;
        answer.first = a;
        answer.second = b;
        answer.strict = strict;
        return true;
    }

    public boolean detour(int page, int url) {
        if (!isPage(page) || !isUrl(url)) {
            return false;
        }
        answers[page].kind = Kind.DETOUR;
        answers[page].target = url;
        return true;
    }

    public boolean fault(int page) {
        if (!isPage(page)) {
            return false;
        }
        answers[page].kind = Kind.FAULT;
        return true;
    }

    public int navigate(int n, int url, boolean replace) {
        if (!isUrlOrBlank(url)) {
            return BAD;
        }
        Entry now = shownEntry(n, presentStep);
        if (now == null) {
            return HIDDEN;
        }
        boolean pushing = !replace && url != now.url;
        if (isFull(pushing)) {
            return FULL;
        }
        if (pushing) {
            dropLaterEntries();
        }
        if (isFragmentMove(now.url, url)) {
            if (url != now.url) {
                hashes++;
            }
            putEntry(now, url, 0, now.document, pushing);
        } else {
            int step = pushing ? presentStep + 1 : now.step;
            int led = followDetours(url);
            putEntry(now, led, 0, load(now.owner, led, step), pushing);
        }
        return presentStep;
    }

    public int rewrite(int n, int url, int state, boolean push) {
        if (!isUrlOrBlank(url)) {
            return BAD;
        }
        Entry now = shownEntry(n, presentStep);
        if (now == null) {
            return HIDDEN;
        }
        if (url != BLANK && !mayRewrite(now.url, url)) {
            return FORBIDDEN;
        }
        if (isFull(push)) {
            return FULL;
        }
        if (push) {
            dropLaterEntries();
        }
        putEntry(now, url == BLANK ? now.url : url, state, now.document, push);
        return presentStep;
    }

    public int go(int delta) {
        int used = collectUsedSteps();
        // A delta near the ends of int would wrap around to a place that is there.
        long aim = (long) placeOfPresent(used) + delta;
        if (aim < 0 || aim >= used) {
            return NONE;
        }
        int target = usedSteps[(int) aim];
        for (int n = 0; n < ROWS; n++) {
            countMove(shownEntry(n, presentStep), shownEntry(n, target));
        }
        presentStep = target;
        return presentStep;
    }

    public int detach(int n) {
        if (n == 0) {
            return BAD;
        }
        Entry now = shownEntry(n, presentStep);
        if (now == null) {
            return HIDDEN;
        }
        takeOut(now.owner);
        dropWhatIsGone();
        settlePresentStep();
        return presentStep;
    }

    public int url(int n) {
        Entry now = shownEntry(n, presentStep);
        return now == null ? HIDDEN : now.url;
    }

    public long state(int n) {
        Entry now = shownEntry(n, presentStep);
        return now == null ? HIDDEN_STATE : now.state;
    }

    public int step(int n) {
        Entry now = shownEntry(n, presentStep);
        return now == null ? HIDDEN : now.step;
    }

    public int origin(int n) {
        Entry now = shownEntry(n, presentStep);
        return now == null ? HIDDEN : now.document.origin;
    }

    public int frame(int n, int k) {
        Entry now = shownEntry(n, presentStep);
        if (now == null) {
            return HIDDEN;
        }
        if (k == 0) {
            return numberOf(now.document.first);
        }
        return k == 1 ? numberOf(now.document.second) : NONE;
    }

    public int entries(int n) {
        Entry now = shownEntry(n, presentStep);
        if (now == null) {
            return HIDDEN;
        }
        int sum = 0;
        for (Entry entry : rows) {
            if (entry.there && entry.owner == now.owner) {
                sum++;
            }
        }
        return sum;
    }

    public int present() {
        return presentStep;
    }

    public int length() {
        return collectUsedSteps();
    }

    public int count(int k) {
        switch (k) {
            case 0:
                return shownNavigables();
            case 1:
                return allNavigables();
            case 2:
                return entriesUpTo(LAST_STEP);
            case 3:
                return pops;
            case 4:
                return hashes;
            case 5:
                return opaques;
            default:
                return NONE;
        }
    }

    private static boolean isPage(int page) {
        return page >= 0 && page < PAGES;
    }

    private static boolean isUrl(int url) {
        return url >= 0 && url < URLS;
    }

    private static boolean isUrlOrBlank(int url) {
        return url == BLANK || isUrl(url);
    }

    private static boolean isFrameChoice(int choice) {
        return choice == NO_FRAME || isUrlOrBlank(choice);
    }

    private static int hostOf(int url) {
        return url / URLS_PER_HOST;
    }

    private static int pageOf(int url) {
        return url / URLS_PER_PAGE;
    }

    private static int fragmentOf(int url) {
        return url == BLANK ? 0 : url % URLS_PER_PAGE;
    }

    private static int numberOf(Navigable frame) {
        return frame == null ? NONE : frame.number;
    }

    private static boolean isFragmentMove(int from, int to) {
        return from != BLANK && to != BLANK && fragmentOf(to) != 0 && pageOf(from) == pageOf(to);
    }

    private static boolean mayRewrite(int from, int to) {
        if (from == BLANK || hostOf(from) != hostOf(to)) {
            return false;
        }
        return hostOf(from) != ONE_PAGE_HOST || pageOf(from) == pageOf(to);
    }

    private boolean isFull(boolean pushing) {
        return entriesUpTo(pushing ? presentStep : LAST_STEP) >= FULL_ROOM;
    }

    private int entriesUpTo(int step) {
        int sum = 0;
        for (Entry entry : rows) {
            if (entry.there && entry.step <= step) {
                sum++;
            }
        }
        return sum;
    }

    private int allNavigables() {
        int sum = 0;
        for (Navigable navigable : navigables) {
            if (navigable.there) {
                sum++;
            }
        }
        return sum;
    }

    private int shownNavigables() {
        int sum = 0;
        for (int n = 0; n < ROWS; n++) {
            if (shownEntry(n, presentStep) != null) {
                sum++;
            }
        }
        return sum;
    }

    /** The entry that n has at the step, or null if n is not shown at that step. */
    private Entry shownEntry(int n, int step) {
        if (n < 0 || n >= ROWS || !navigables[n].there) {
            return null;
        }
        Document above = navigables[n].above;
        for (int level = 1; level < LEVELS && above != null; level++) {
            Entry holder = entryAt(above.owner, step);
            if (holder == null || holder.document != above) {
                return null;
            }
            above = above.owner.above;
        }
        return entryAt(navigables[n], step);
    }

    private Entry entryAt(Navigable navigable, int step) {
        Entry latest = null;
        for (Entry entry : rows) {
            if (entry.there && entry.owner == navigable && entry.step <= step
                    && (latest == null || entry.step > latest.step)) {
                latest = entry;
            }
        }
        return latest;
    }

    private int followDetours(int url) {
        int led = url;
        for (int i = 0; i < MOST_DETOURS && isDetour(led); i++) {
            int target = answers[pageOf(led)].target;
            led = fragmentOf(target) == 0 ? target + fragmentOf(led) : target;
        }
        return led;
    }

    private boolean isDetour(int url) {
        return url != BLANK && answers[pageOf(url)].kind == Kind.DETOUR;
    }

    /** Loads what the detours led to; the levels of the navigables end the recursion through the frames. */
    private Document load(Navigable owner, int url, int step) {
        Document above = owner.above;
        boolean boxedAbove = above != null && above.sandboxed;
        Document made = freeDocument(owner);
        if (url == BLANK) {
            made.sandboxed = boxedAbove;
            made.origin = above == null || boxedAbove ? giveOpaqueOrigin() : above.origin;
            return made;
        }
        Answer answer = answers[pageOf(url)];
        if (answer.kind != Kind.CONTENT) {
            made.sandboxed = false;
            made.origin = giveOpaqueOrigin();
            return made;
        }
        made.sandboxed = answer.strict || boxedAbove;
        made.origin = made.sandboxed ? giveOpaqueOrigin() : hostOf(url);
        makeFrames(made, answer, step);
        return made;
    }

    private int giveOpaqueOrigin() {
        int origin = FIRST_OPAQUE + opaques;
        opaques++;
        return origin;
    }

    private void makeFrames(Document document, Answer answer, int step) {
        // Two frames for the window, one on the level below it, none on the last level.
        int room = LEVELS - 1 - document.owner.level;
        if (room > 0 && answer.first != NO_FRAME) {
            document.first = makeFrame(document, answer.first, step);
            room--;
        }
        if (room > 0 && answer.second != NO_FRAME) {
            Navigable frame = makeFrame(document, answer.second, step);
            if (document.first == null) {
                document.first = frame;
            } else {
                document.second = frame;
            }
        }
    }

    private Navigable makeFrame(Document document, int url, int step) {
        Navigable frame = freeNavigable();
        frame.there = true;
        frame.level = document.owner.level + 1;
        frame.above = document;
        int led = followDetours(url);
        addEntry(frame, step, led, 0, load(frame, led, step));
        return frame;
    }

    // The last row stands in where a search finds none free, which ROWS rules out, so that none answers null.
    private Navigable freeNavigable() {
        int n = 1;
        while (n < ROWS - 1 && navigables[n].there) {
            n++;
        }
        return navigables[n];
    }

    private Document freeDocument(Navigable owner) {
        int i = 0;
        while (i < ROWS - 1 && documents[i].there) {
            i++;
        }
        Document document = documents[i];
        document.there = true;
        document.owner = owner;
        document.first = null;
        document.second = null;
        return document;
    }

    private void addEntry(Navigable owner, int step, int url, int state, Document document) {
        int i = 0;
        while (i < ROWS - 1 && rows[i].there) {
            i++;
        }
        Entry entry = rows[i];
        entry.there = true;
        entry.owner = owner;
        entry.step = step;
        entry.url = url;
        entry.state = state;
        entry.document = document;
    }

    private void putEntry(Entry now, int url, int state, Document document, boolean pushing) {
        if (pushing) {
            presentStep++;
            addEntry(now.owner, presentStep, url, state, document);
            return;
        }
        now.url = url;
        now.state = state;
        now.document = document;
        dropWhatIsGone();
        settlePresentStep();
    }

    private void dropLaterEntries() {
        for (Entry entry : rows) {
            if (entry.step > presentStep) {
                entry.there = false;
            }
        }
        dropWhatIsGone();
    }

    private void takeOut(Navigable frame) {
        Document above = frame.above;
        if (above == null) {
            return;
        }
        if (above.first == frame) {
            above.first = above.second;
        }
        above.second = null;
        frame.there = false;
    }

    private void dropWhatIsGone() {
        // Each round carries the loss one level further down.
        for (int level = 0; level < LEVELS; level++) {
            keepOnlyHeldDocuments();
            dropFramesOfGoneDocuments();
            dropEntriesOfGoneNavigables();
        }
    }

    private void keepOnlyHeldDocuments() {
        for (Document document : documents) {
            document.there = false;
        }
        for (Entry entry : rows) {
            if (entry.there) {
                entry.document.there = true;
            }
        }
    }

    private void dropFramesOfGoneDocuments() {
        for (Navigable navigable : navigables) {
            if (navigable.above != null && !navigable.above.there) {
                navigable.there = false;
            }
        }
    }

    private void dropEntriesOfGoneNavigables() {
        for (Entry entry : rows) {
            if (entry.there && !entry.owner.there) {
                entry.there = false;
            }
        }
    }

    private void settlePresentStep() {
        // The window's first entry is never removed, so the step 0 is always used.
        int latest = 0;
        for (Entry entry : rows) {
            if (entry.there && entry.step <= presentStep && entry.step > latest) {
                latest = entry.step;
            }
        }
        presentStep = latest;
    }

    /** Puts the used steps into usedSteps in rising order, and answers how many they are. */
    private int collectUsedSteps() {
        int used = 0;
        for (Entry entry : rows) {
            if (entry.there) {
                used = insertStep(entry.step, used);
            }
        }
        return used;
    }

    private int insertStep(int step, int used) {
        int at = used;
        while (at > 0 && usedSteps[at - 1] > step) {
            at--;
        }
        if (at > 0 && usedSteps[at - 1] == step) {
            return used;
        }
        for (int i = used; i > at; i--) {
            usedSteps[i] = usedSteps[i - 1];
        }
        usedSteps[at] = step;
        return used + 1;
    }

    private int placeOfPresent(int used) {
        int place = 0;
        while (place < used - 1 && usedSteps[place] < presentStep) {
            place++;
        }
        return place;
    }

    private void countMove(Entry before, Entry after) {
        if (before == null || after == null || before == after || before.document != after.document) {
            return;
        }
        pops++;
        if (fragmentOf(before.url) != fragmentOf(after.url)) {
            hashes++;
        }
    }
}
