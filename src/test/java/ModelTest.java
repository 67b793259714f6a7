import java.util.ArrayList;
import java.util.HashSet;
import java.util.List;
import java.util.Random;
import java.util.Set;
import java.util.TreeSet;

/**
 * Runs of at most 512 calls on JointHistory and on a second writing of the document, which keeps a plain
 * tree of objects: there, what no entry has any more is gone because nothing leads to it.
 */
public final class ModelTest {
    private static final int RUNS = 6000;
    private static final int CALLS = 512;
    private static final int[] EDGES = {
        Integer.MIN_VALUE, -300, -8, -7, -3, -2, -1, 0, 1, 2, 3, 6, 31, 32, 35, 36, 39, 40, 41, 255, 256,
        Integer.MAX_VALUE
    };

    private static final class Nav {
        int number;
        Doc above;
        List<Ent> row = new ArrayList<>();

        int depth() {
            return above == null ? 0 : 1 + above.of.depth();
        }
    }

    private static final class Doc {
        Nav of;
        int origin;
        boolean boxed;
        List<Nav> frames = new ArrayList<>();
    }

    private static final class Ent {
        int step;
        int url;
        int state;
        Doc doc;
    }

    private static final class Model {
        final int[][] content = new int[32][];
        final boolean[] strict = new boolean[32];
        final int[] detour = new int[32];
        final Nav window = new Nav();
        final Set<Integer> beingMade = new HashSet<>();
        int present;
        int pops;
        int hashes;
        int opaque = 4;

        Model() {
            for (int page = 0; page < 32; page++) {
                content[page] = new int[] {-2, -2};
                detour[page] = -1;
            }
            Ent first = new Ent();
            first.url = -1;
            first.doc = load(window, -1, 0);
            window.row.add(first);
        }

        boolean content(int page, int a, int b, boolean isStrict) {
            if (page < 0 || page > 31 || a < -2 || a > 255 || b < -2 || b > 255) {
                return false;
            }
            content[page] = new int[] {a, b};
            strict[page] = isStrict;
            detour[page] = -1;
            return true;
        }

        boolean detour(int page, int url) {
            if (page < 0 || page > 31 || url < 0 || url > 255) {
                return false;
            }
            detour[page] = url;
            return true;
        }

        boolean fault(int page) {
            if (page < 0 || page > 31) {
                return false;
            }
            detour[page] = -1;
            content[page] = null;
            return true;
        }

        List<Nav> all() {
            List<Nav> found = new ArrayList<>();
            found.add(window);
            for (int i = 0; i < found.size(); i++) {
                Set<Doc> seen = new HashSet<>();
                for (Ent entry : found.get(i).row) {
                    if (seen.add(entry.doc)) {
                        found.addAll(entry.doc.frames);
                    }
                }
            }
            return found;
        }

        Ent at(Nav nav, int step) {
            Ent last = null;
            for (Ent entry : nav.row) {
                if (entry.step <= step) {
                    last = entry;
                }
            }
            return last;
        }

        List<Nav> shown(int step) {
            List<Nav> found = new ArrayList<>();
            found.add(window);
            for (int i = 0; i < found.size(); i++) {
                found.addAll(at(found.get(i), step).doc.frames);
            }
            return found;
        }

        Nav shownNav(int n) {
            for (Nav nav : shown(present)) {
                if (nav.number == n) {
                    return nav;
                }
            }
            return null;
        }

        List<Ent> allEntries() {
            List<Ent> found = new ArrayList<>();
            for (Nav nav : all()) {
                found.addAll(nav.row);
            }
            return found;
        }

        TreeSet<Integer> used() {
            TreeSet<Integer> steps = new TreeSet<>();
            for (Ent entry : allEntries()) {
                steps.add(entry.step);
            }
            return steps;
        }

        int led(int asked) {
            int url = asked;
            for (int i = 0; i < 4; i++) {
                if (url != -1 && detour[url / 8] != -1) {
                    int to = detour[url / 8];
                    url = to % 8 != 0 ? to : to + url % 8;
                }
            }
            return url;
        }

        Doc load(Nav nav, int asked, int step) {
            Doc doc = new Doc();
            doc.of = nav;
            int url = led(asked);
            boolean boxedAbove = nav.above != null && nav.above.boxed;
            if (url == -1) {
                doc.boxed = boxedAbove;
                doc.origin = nav.above != null && !boxedAbove ? nav.above.origin : opaque++;
            } else if (detour[url / 8] != -1 || content[url / 8] == null) {
                doc.origin = opaque++;
            } else {
                doc.boxed = strict[url / 8] || boxedAbove;
                doc.origin = doc.boxed ? opaque++ : url / 64;
                List<Integer> wanted = new ArrayList<>();
                for (int choice : content[url / 8]) {
                    if (choice != -2) {
                        wanted.add(choice);
                    }
                }
                int most = nav == window ? 2 : nav.depth() == 1 ? 1 : 0;
                for (int i = 0; i < Math.min(most, wanted.size()); i++) {
                    frameFor(doc, wanted.get(i), step);
                }
            }
            return doc;
        }

        void frameFor(Doc doc, int url, int step) {
            Set<Integer> taken = new HashSet<>(beingMade);
            for (Nav nav : all()) {
                taken.add(nav.number);
            }
            Nav frame = new Nav();
            frame.number = 1;
            while (taken.contains(frame.number)) {
                frame.number++;
            }
            beingMade.add(frame.number);
            frame.above = doc;
            doc.frames.add(frame);
            Ent entry = new Ent();
            entry.step = step;
            entry.url = led(url);
            entry.doc = load(frame, url, step);
            frame.row.add(entry);
        }

        boolean full(boolean push) {
            int there = 0;
            for (Ent entry : allEntries()) {
                if (!push || entry.step <= present) {
                    there++;
                }
            }
            return there >= 36;
        }

        void cut() {
            for (Nav nav : all()) {
                nav.row.removeIf(entry -> entry.step > present);
            }
        }

        void settle() {
            present = used().floor(present);
        }

        Ent target(Nav nav, boolean push) {
            if (!push) {
                return at(nav, present);
            }
            Ent entry = new Ent();
            entry.step = present + 1;
            return entry;
        }

        int finish(Nav nav, Ent entry, boolean push) {
            beingMade.clear();
            if (push) {
                nav.row.add(entry);
                present = entry.step;
            } else {
                settle();
            }
            return present;
        }

        int navigate(int n, int url, boolean replace) {
            if (url < -1 || url > 255) {
                return -3;
            }
            Nav nav = shownNav(n);
            if (nav == null) {
                return -4;
            }
            Ent now = at(nav, present);
            boolean push = !(replace || url == now.url);
            if (full(push)) {
                return -5;
            }
            boolean stay = url != -1 && now.url != -1 && url % 8 != 0 && url / 8 == now.url / 8;
            if (stay && url != now.url) {
                hashes++;
            }
            if (push) {
                cut();
            }
            Ent entry = target(nav, push);
            Doc doc = stay ? now.doc : load(nav, url, entry.step);
            entry.url = stay ? url : led(url);
            entry.state = 0;
            entry.doc = doc;
            return finish(nav, entry, push);
        }

        int rewrite(int n, int url, int state, boolean push) {
            if (url < -1 || url > 255) {
                return -3;
            }
            Nav nav = shownNav(n);
            if (nav == null) {
                return -4;
            }
            Ent now = at(nav, present);
            if (url != -1 && (now.url == -1 || now.url / 64 != url / 64
                    || now.url / 64 == 3 && now.url / 8 != url / 8)) {
                return -6;
            }
            if (full(push)) {
                return -5;
            }
            if (push) {
                cut();
            }
            Ent entry = target(nav, push);
            entry.url = url == -1 ? now.url : url;
            entry.state = state;
            entry.doc = now.doc;
            return finish(nav, entry, push);
        }

        int go(int delta) {
            List<Integer> steps = new ArrayList<>(used());
            long aim = (long) steps.indexOf(present) + delta;
            if (aim < 0 || aim >= steps.size()) {
                return -7;
            }
            int to = steps.get((int) aim);
            List<Nav> after = shown(to);
            for (Nav nav : shown(present)) {
                Ent from = at(nav, present);
                Ent next = at(nav, to);
                if (after.contains(nav) && from != next && from.doc == next.doc) {
                    pops++;
                    int fromFragment = from.url == -1 ? 0 : from.url % 8;
                    int nextFragment = next.url == -1 ? 0 : next.url % 8;
                    hashes += fromFragment != nextFragment ? 1 : 0;
                }
            }
            present = to;
            return present;
        }

        int detach(int n) {
            if (n == 0) {
                return -3;
            }
            Nav nav = shownNav(n);
            if (nav == null) {
                return -4;
            }
            nav.above.frames.remove(nav);
            settle();
            return present;
        }

        long look(int what, int n, int k) {
            Nav nav = shownNav(n);
            if (nav == null) {
                return what == 1 ? 1L << 40 : -4;
            }
            Ent now = at(nav, present);
            switch (what) {
                case 0:
                    return now.url;
                case 1:
                    return now.state;
                case 2:
                    return now.step;
                case 3:
                    return now.doc.origin;
                case 4:
                    return k < 0 || k > 1 || k >= now.doc.frames.size() ? -7 : now.doc.frames.get(k).number;
                default:
                    return nav.row.size();
            }
        }

        int count(int k) {
            int[] counts = {
                shown(present).size(), all().size(), allEntries().size(), pops, hashes, opaque - 4
            };
            return k < 0 || k > 5 ? -7 : counts[k];
        }
    }

    private final int run;
    private final Random random;
    private final JointHistory history = new JointHistory();
    private final Model model = new Model();
    private final List<String> calls = new ArrayList<>();
    private final int[] pages;
    private static final Set<String> reached = new TreeSet<>();
    private static int wrong = 0;

    private ModelTest(int run) {
        this.run = run;
        random = new Random(run);
        pages = new int[2 + random.nextInt(6)];
        for (int i = 0; i < pages.length; i++) {
            pages[i] = random.nextInt(32);
        }
    }

    private boolean oneIn(int n) {
        return random.nextInt(n) == 0;
    }

    private int edge() {
        return EDGES[random.nextInt(EDGES.length)];
    }

    private int anyPage() {
        return oneIn(30) ? edge() : pages[random.nextInt(pages.length)];
    }

    private int anyUrl() {
        if (oneIn(30)) {
            return edge();
        }
        int page = oneIn(15) ? random.nextInt(32) : pages[random.nextInt(pages.length)];
        return oneIn(12) ? -1 : page * 8 + (random.nextBoolean() ? 0 : random.nextInt(8));
    }

    private int anyFrameUrl() {
        return oneIn(3) ? -2 : anyUrl();
    }

    private int anyNav() {
        if (oneIn(15)) {
            return oneIn(3) ? edge() : random.nextInt(12);
        }
        List<Nav> shown = model.shown(model.present);
        return shown.get(random.nextInt(shown.size())).number;
    }

    private boolean due(String call, long got, long want) {
        calls.add(call + " -> " + want);
        if (got == want) {
            return true;
        }
        wrong++;
        System.out.println("run " + run + ": " + call + " answered " + got + ", due is " + want + ", after:");
        for (String earlier : calls) {
            System.out.println("    " + earlier);
        }
        return false;
    }

    private boolean setAnswer() {
        int page = anyPage();
        int url = anyUrl();
        switch (random.nextInt(6)) {
            case 0:
                return due("fault(" + page + ")", history.fault(page) ? 1 : 0, model.fault(page) ? 1 : 0);
            case 1:
                return due("detour(" + page + ", " + url + ")",
                        history.detour(page, url) ? 1 : 0, model.detour(page, url) ? 1 : 0);
            default:
                int a = anyFrameUrl();
                int b = anyFrameUrl();
                boolean strict = oneIn(4);
                return due("content(" + page + ", " + a + ", " + b + ", " + strict + ")",
                        history.content(page, a, b, strict) ? 1 : 0, model.content(page, a, b, strict) ? 1 : 0);
        }
    }

    private boolean change() {
        int n = anyNav();
        int url = anyUrl();
        int kind = random.nextInt(16);
        if (kind < 6) {
            boolean replace = oneIn(4);
            int want = model.navigate(n, url, replace);
            reached.add("navigate " + (want < 0 ? want + " " + replace : ""));
            return due("navigate(" + n + ", " + url + ", " + replace + ")", history.navigate(n, url, replace), want);
        }
        if (kind < 10) {
            boolean push = !oneIn(3);
            int state = oneIn(3) ? edge() : random.nextInt();
            int asked = oneIn(3) ? -1 : url;
            int want = model.rewrite(n, asked, state, push);
            reached.add("rewrite " + (want < 0 ? want + " " + push : ""));
            return due("rewrite(" + n + ", " + asked + ", " + state + ", " + push + ")",
                    history.rewrite(n, asked, state, push), want);
        }
        if (kind < 15) {
            int delta = oneIn(12) ? edge() : random.nextInt(7) - 3;
            int want = model.go(delta);
            reached.add("go " + (want < 0 ? want : ""));
            return due("go(" + delta + ")", history.go(delta), want);
        }
        int want = model.detach(n);
        reached.add("detach " + (want < 0 ? want : ""));
        return due("detach(" + n + ")", history.detach(n), want);
    }

    private boolean look() {
        int n = anyNav();
        int k = oneIn(6) ? edge() : random.nextInt(6);
        int what = random.nextInt(10);
        switch (what) {
            case 0:
                return due("url(" + n + ")", history.url(n), model.look(0, n, 0));
            case 1:
                return due("state(" + n + ")", history.state(n), model.look(1, n, 0));
            case 2:
                return due("step(" + n + ")", history.step(n), model.look(2, n, 0));
            case 3:
                return due("origin(" + n + ")", history.origin(n), model.look(3, n, 0));
            case 4:
                int place = oneIn(6) ? edge() : random.nextInt(2);
                return due("frame(" + n + ", " + place + ")", history.frame(n, place), model.look(4, n, place));
            case 5:
                return due("entries(" + n + ")", history.entries(n), model.look(5, n, 0));
            case 6:
                return due("present()", history.present(), model.present);
            case 7:
                return due("length()", history.length(), model.used().size());
            default:
                if (k == 2) {
                    reached.add("entries in all " + model.count(2));
                }
                return due("count(" + k + ")", history.count(k), model.count(k));
        }
    }

    private void play() {
        boolean right = true;
        for (int i = 0; i < CALLS && right; i++) {
            int kind = random.nextInt(10);
            right = kind == 0 || i < 4 ? setAnswer() : kind < 5 ? change() : look();
        }
    }

    /** Without these the runs would pass by the edges that they are there for. */
    private static void mustReach(String... edges) {
        for (String edge : edges) {
            if (!reached.contains(edge)) {
                wrong++;
                System.out.println("no run reached: " + edge);
            }
        }
    }

    public static void main(String[] args) {
        for (int run = 0; run < RUNS && wrong < 3; run++) {
            new ModelTest(run).play();
        }
        mustReach("navigate -5 true", "navigate -5 false", "rewrite -5 true", "rewrite -5 false",
                "rewrite -6 true", "go -7", "detach -4", "detach -3", "entries in all 40");
        System.out.println(wrong == 0 ? RUNS + " runs are as the model has them" : "the runs differ from the model");
        if (wrong != 0) {
            System.exit(1);
        }
    }
}
