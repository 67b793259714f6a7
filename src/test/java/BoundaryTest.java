/**
 * One test for each sentence of the document that names a boundary case: its own words stand at the head
 * of the test and in front of every answer that is not as due. No test makes more than 512 calls of one object.
 */
public final class BoundaryTest {
    private static final int BLANK = JointHistory.BLANK;
    private static final int NO_FRAME = JointHistory.NO_FRAME;
    private static final int BAD = JointHistory.BAD;
    private static final int HIDDEN = JointHistory.HIDDEN;
    private static final int FULL = JointHistory.FULL;
    private static final int FORBIDDEN = JointHistory.FORBIDDEN;
    private static final int NONE = JointHistory.NONE;
    private static final long NO_STATE = 1099511627776L;

    private static final int SHOWN = 0;
    private static final int NAVIGABLES = 1;
    private static final int ENTRIES = 2;
    private static final int POPS = 3;
    private static final int HASHES = 4;
    private static final int OPAQUES = 5;

    private static final int LEAST = Integer.MIN_VALUE;
    private static final int GREATEST = Integer.MAX_VALUE;

    // No more than forty entries are ever there, so no more steps are used.
    private static final int MOST_STEPS = 40;

    private static int wrong = 0;
    private static int sentences = 0;
    private static String sentence = "";

    private static void sentence(String words) {
        sentence = words;
        sentences++;
    }

    private static void due(String what, long got, long want) {
        if (got != want) {
            wrong++;
            System.out.println("\"" + sentence + "\": " + what + " answered " + got + ", due is " + want);
        }
    }

    private static void due(String what, boolean got, boolean want) {
        due(what, got ? 1 : 0, want ? 1 : 0);
    }

    private static void same(String what, String got, String want) {
        if (!got.equals(want)) {
            wrong++;
            System.out.println("\"" + sentence + "\": " + what + ", it is " + got + ", due is " + want);
        }
    }

    /** All that can be asked of the object at its present step. */
    private static String seen(JointHistory x) {
        StringBuilder text = new StringBuilder();
        text.append("present ").append(x.present()).append(" of ").append(x.length()).append(", counts");
        for (int k = SHOWN; k <= OPAQUES; k++) {
            text.append(' ').append(x.count(k));
        }
        addNavigable(text, x, 0);
        return text.toString();
    }

    private static void addNavigable(StringBuilder text, JointHistory x, int n) {
        text.append("; ").append(n).append(": url ").append(x.url(n)).append(" state ").append(x.state(n))
                .append(" step ").append(x.step(n)).append(" origin ").append(x.origin(n))
                .append(" entries ").append(x.entries(n));
        for (int k = 0; k < 2; k++) {
            int frame = x.frame(n, k);
            if (frame != NONE) {
                addNavigable(text, x, frame);
            }
        }
    }

    /** All that can be asked of the object at each used step; it moves the object. */
    private static String seenAtEachStep(JointHistory x) {
        StringBuilder text = new StringBuilder(seen(x));
        int forward = 0;
        while (stillGoes(x, 1, forward)) {
            forward++;
        }
        int back = 0;
        do {
            text.append(" | ").append(seen(x));
            back++;
        } while (stillGoes(x, -1, back));
        return text.append(" | ").append(forward).toString();
    }

    /** A go that is never refused must fail the test, and not keep it from ending. */
    private static boolean stillGoes(JointHistory x, int delta, int gone) {
        if (gone > MOST_STEPS) {
            due("go by " + delta + " from the last step there", x.go(delta), NONE);
            return false;
        }
        return x.go(delta) != NONE;
    }

    /** The window shows 64 at the step 1, with the frames 1 (80) and 2 (88), all of the host 1. */
    private static JointHistory withTwoFrames() {
        JointHistory x = new JointHistory();
        x.content(8, 80, 88, false);
        x.navigate(0, 64, false);
        return x;
    }

    /** The window shows 64 at the step 1, with the frames 1 (80, with 2 in it) and 3 (88, with 4 in it). */
    private static JointHistory withFourFrames() {
        JointHistory x = new JointHistory();
        x.content(8, 80, 88, false);
        x.content(10, 96, NO_FRAME, false);
        x.content(11, 104, NO_FRAME, false);
        x.navigate(0, 64, false);
        return x;
    }

    /** The window has so many entries, all of the empty page, at the steps 0, 1, ... */
    private static JointHistory withEntries(int entries) {
        JointHistory x = new JointHistory();
        for (int i = 1; i < entries; i++) {
            x.rewrite(0, BLANK, i, true);
        }
        return x;
    }

    // What it is

    private static void callsUpToTheLast() {
        sentence("An object is used for at most 512 calls after it has been made");
        JointHistory x = new JointHistory();
        for (int i = 1; i <= 510; i++) {
            due("call " + i, x.navigate(0, BLANK, true), 0);
        }
        due("call 511", x.origin(0), 514);
        due("call 512", x.count(OPAQUES), 511);
        JointHistory y = new JointHistory();
        y.content(1, 8, 8, true);
        for (int i = 2; i <= 511; i++) {
            y.navigate(0, 8, true);
        }
        due("five opaque origins a call", y.count(OPAQUES), 1 + 5 * 510);
        JointHistory z = new JointHistory();
        for (int i = 1; i <= 511; i++) {
            int want = i > 35 ? FULL : i;
            due("push " + i, z.rewrite(0, BLANK, i, true), want);
        }
        due("call 512 of a full one", z.state(0), 35);
    }

    private static void stepsBeyondTheRoom() {
        sentence("An object is used for at most 512 calls after it has been made (steps beyond 40)");
        JointHistory x = new JointHistory();
        x.content(8, 80, NO_FRAME, false);
        int step = 0;
        for (int round = 0; round < 8; round++) {
            step++;
            due("the window with its frame", x.navigate(0, 64, false), step);
            int frame = x.frame(0, 0);
            for (int i = 0; i < 15; i++) {
                step++;
                due("the frame's push", x.rewrite(frame, BLANK, i, true), step);
            }
            step++;
            due("the window's next", x.navigate(0, 0, false), step);
            due("back over the frame's", x.go(-16), step - 16);
            due("the frame is gone with its steps", x.navigate(0, 8, true), step - 16);
            due("on over the gap", x.go(1), step);
        }
        due("the present step", x.present(), 136);
        due("the used steps", x.length(), 17);
        due("back to the first", x.go(-16), 0);
        due("the first, a gap, and so on", x.go(2), 17);
    }

    // Terms: URLs, origins, answers

    private static void partsOfUrls() {
        sentence("the HOST of u is u / 64, its PAGE u / 8, its FRAGMENT u % 8, where 0 means that it has none");
        for (int u = 0; u <= 255; u++) {
            JointHistory x = new JointHistory();
            x.fault(u / 8);
            due("fault, " + u, x.navigate(0, u, false), 1);
            due("its page's answer, " + u, x.origin(0), 5);
            x.content(u / 8, NO_FRAME, NO_FRAME, false);
            int twin = u % 8 == 7 ? u - 1 : u + 1;
            x.navigate(0, twin, true);
            due("a fragment is not loaded, " + u, x.origin(0), twin % 8 != 0 ? 5 : u / 64);
            due("a hash for it, " + u, x.count(HASHES), twin % 8 != 0 ? 1 : 0);
            x.navigate(0, u / 8 * 8, true);
            due("host, " + u, x.origin(0), u / 64);
        }
    }

    private static void blankIsNotOfPageZero() {
        sentence("BLANK (-1) is the URL of the empty page");
        JointHistory x = new JointHistory();
        x.fault(0);
        due("the answer of page 0 is not asked", x.navigate(0, BLANK, false), 0);
        x.content(0, 8, 8, true);
        x.navigate(0, BLANK, true);
        due("nor its frames", x.frame(0, 0), NONE);
        due("a URL of page 0 is loaded after it", x.navigate(0, 7, false), 1);
        due("with its frames", x.frame(0, 1), 2);
        due("without a hash", x.count(HASHES), 0);
        due("the empty page after 7", x.navigate(0, BLANK, false), 2);
        due("without a hash, too", x.count(HASHES), 0);
    }

    private static void opaqueOrigins() {
        sentence("4, 5, .. are OPAQUE: a new one is the least of these that was not given yet");
        JointHistory x = new JointHistory();
        due("the first", x.origin(0), 4);
        x.navigate(0, BLANK, true);
        due("4 was given, though no document has it", x.origin(0), 5);
        due("refused", x.navigate(0, 256, false), BAD);
        due("refused, too", x.navigate(1, BLANK, false), HIDDEN);
        x.fault(1);
        x.navigate(0, 8, true);
        due("a refused call gives none", x.origin(0), 6);
        x.navigate(0, 255, true);
        due("the greatest host", x.origin(0), 3);
        due("hosts are not opaque", x.count(OPAQUES), 3);
    }

    private static void firstAnswers() {
        sentence("At first it is content without frames, not strict");
        JointHistory x = new JointHistory();
        for (int page = 0; page <= 31; page++) {
            x.navigate(0, page * 8, true);
            due("frame, page " + page, x.frame(0, 0), NONE);
            due("url, page " + page, x.url(0), page * 8);
            due("origin, page " + page, x.origin(0), page / 8);
        }
        due("no opaque one", x.count(OPAQUES), 1);
    }

    // Terms: navigables and the present step

    private static void otherFrameIsTheFirst() {
        sentence("when the first one is taken out, the other one is the first");
        JointHistory x = withTwoFrames();
        due("the first out", x.detach(1), 1);
        due("the other is the first", x.frame(0, 0), 2);
        due("there is no second", x.frame(0, 1), NONE);
        due("it is shown as before", x.url(2), 88);
        due("the other out", x.detach(2), 1);
        due("there is no first", x.frame(0, 0), NONE);
        JointHistory y = withTwoFrames();
        due("the second out", y.detach(2), 1);
        due("the first stays the first", y.frame(0, 0), 1);
        due("there is no second then", y.frame(0, 1), NONE);
    }

    private static void goneAndSoOn() {
        sentence("What no entry has any more is gone: the document, its frames, their entries, and so on");
        JointHistory x = withFourFrames();
        x.navigate(4, 0, false);
        x.navigate(3, 8, false);
        x.rewrite(0, BLANK, 0, true);
        due("all are there", x.count(NAVIGABLES), 5);
        due("their entries, too", x.count(ENTRIES), 9);
        x.go(-4);
        due("the window goes elsewhere", x.navigate(0, 8, false), 1);
        due("only the window is there", x.count(NAVIGABLES), 1);
        due("no first frame is left over", x.frame(0, 0), NONE);
        due("no second frame is left over", x.frame(0, 1), NONE);
        due("two entries", x.count(ENTRIES), 2);
        due("two steps", x.length(), 2);
        JointHistory y = withFourFrames();
        y.rewrite(0, BLANK, 0, true);
        y.navigate(0, 0, true);
        due("another entry has the document yet", y.count(NAVIGABLES), 5);
        y.go(-1);
        due("its frames are shown there", y.count(SHOWN), 5);
        y.navigate(0, 0, true);
        due("no entry has it any more", y.count(NAVIGABLES), 1);
        due("three entries", y.count(ENTRIES), 3);
    }

    private static void presentStepAtFirst() {
        sentence("THE PRESENT STEP is 0 at first");
        JointHistory x = new JointHistory();
        due("present", x.present(), 0);
        due("the window's", x.step(0), 0);
        due("back", x.go(-1), NONE);
        due("on", x.go(1), NONE);
        due("nowhere", x.go(0), 0);
    }

    private static void presentEntry() {
        sentence("the one with the greatest step that is not greater than the present step");
        JointHistory x = withTwoFrames();
        x.navigate(1, 0, false);
        x.navigate(2, 8, false);
        x.navigate(1, 16, false);
        due("equal to it", x.step(1), 4);
        due("one less", x.step(2), 3);
        due("the window's, far less", x.step(0), 1);
        x.go(-1);
        due("the later one is greater", x.step(1), 2);
        due("equal to it, the other", x.step(2), 3);
        x.go(-1);
        due("equal again", x.url(1), 0);
        due("the other's first", x.url(2), 88);
        x.go(-1);
        due("all equal", x.step(0) + x.step(1) + x.step(2), 3);
    }

    private static void shownOnes() {
        sentence("SHOWN are the window and the frames of the document of the present entry of each navigable that is shown");
        JointHistory x = withFourFrames();
        due("all five", x.count(SHOWN), 5);
        x.navigate(1, 0, false);
        due("2 is not of the present document of 1", x.url(2), HIDDEN);
        due("4 is of that of 3", x.url(4), 104);
        due("four", x.count(SHOWN), 4);
        x.navigate(0, 0, false);
        due("none of the window's", x.count(SHOWN), 1);
        for (int n = 1; n <= 4; n++) {
            due("hidden " + n, x.step(n), HIDDEN);
        }
        x.go(-2);
        due("all five again", x.count(SHOWN), 5);
        x.go(-1);
        due("the window alone", x.count(SHOWN), 1);
        due("all are there", x.count(NAVIGABLES), 5);
    }

    // Terms: loading

    private static void loadingBlank() {
        sentence("Its origin is that of the above if there is one and it is not sandboxed; otherwise it is a new opaque one");
        JointHistory x = new JointHistory();
        due("the window's", x.origin(0), 4);
        x.content(16, BLANK, BLANK, false);
        x.content(24, BLANK, BLANK, true);
        x.navigate(0, 128, false);
        due("the host above", x.origin(1), 2);
        due("the host above the second", x.origin(2), 2);
        x.navigate(0, 192, false);
        due("strict", x.origin(0), 5);
        due("a new one below strict", x.origin(3), 6);
        due("another new one", x.origin(4), 7);
        x.navigate(0, BLANK, false);
        due("the window's, each time anew", x.origin(0), 8);
        due("no frames", x.frame(0, 0), NONE);
        x.content(16, 136, NO_FRAME, false);
        x.content(17, BLANK, NO_FRAME, true);
        x.navigate(0, 128, false);
        due("the above of the inner one is its frame's", x.origin(x.frame(x.frame(0, 0), 0)), 10);
        due("not the window's", x.origin(0), 2);
    }

    private static void fourDetours() {
        sentence("as long as the answer of its page is a detour, at most four times");
        for (int detours = 0; detours <= 6; detours++) {
            JointHistory x = new JointHistory();
            for (int page = 0; page < detours; page++) {
                x.detour(page, (page + 1) * 8);
            }
            x.content(detours, 128, 128, false);
            x.navigate(0, 0, false);
            boolean arrives = detours <= 4;
            due("url after " + detours, x.url(0), arrives ? detours * 8 : 32);
            due("origin after " + detours, x.origin(0), arrives ? 0 : 5);
            due("frames after " + detours, x.count(NAVIGABLES), arrives ? 3 : 1);
        }
    }

    private static void detoursInARing() {
        sentence("Is the answer still a detour then, or a fault, the document is not sandboxed and has a new opaque origin and no frames");
        JointHistory x = new JointHistory();
        x.detour(31, 248);
        due("to itself", x.navigate(0, 255, false), 1);
        due("its url", x.url(0), 255);
        due("its origin", x.origin(0), 5);
        x.detour(1, 16);
        x.detour(2, 24);
        x.detour(3, 8);
        x.navigate(0, 8, false);
        due("a ring of three, the fourth", x.url(0), 16);
        due("origin there", x.origin(0), 6);
        x.content(4, 40, 48, true);
        x.fault(4);
        x.navigate(0, 32, false);
        due("a fault keeps no frames", x.frame(0, 0), NONE);
        due("origin of a fault", x.origin(0), 7);
        x.content(5, 8, 32, false);
        x.navigate(0, 40, false);
        due("a ring in a frame", x.origin(1), 8);
        due("its url in a frame", x.url(1), 16);
        due("a fault in a frame", x.origin(2), 9);
        due("no frames in them", x.count(SHOWN), 3);
        for (int page = 10; page < 14; page++) {
            x.detour(page, (page + 1) * 8);
        }
        x.fault(14);
        x.navigate(0, 80, false);
        due("a fault after four detours, url", x.url(0), 112);
        due("a fault after four detours, origin", x.origin(0), 10);
    }

    private static void fragmentsOfDetours() {
        sentence("the URL becomes the one that the detour leads to, with the fragment of the URL before if it has none itself");
        JointHistory x = new JointHistory();
        x.detour(1, 16);
        x.detour(3, 20);
        x.detour(4, 24);
        x.detour(5, 8);
        x.navigate(0, 8, false);
        due("none and none", x.url(0), 16);
        x.navigate(0, 15, true);
        due("7 and none", x.url(0), 23);
        x.navigate(0, 24, true);
        due("none and 4", x.url(0), 20);
        x.navigate(0, 31, true);
        due("7 and 4", x.url(0), 20);
        x.navigate(0, 33, true);
        due("over two, its own counts", x.url(0), 20);
        x.navigate(0, 41, true);
        due("over two, it is carried on", x.url(0), 17);
        x.detour(31, 248);
        x.navigate(0, 249, true);
        due("carried round", x.url(0), 249);
    }

    private static void strictOrBelowASandbox() {
        sentence("Otherwise it is sandboxed if the answer is strict or the above is sandboxed; its origin is a new opaque one if it is sandboxed, else that of the URL's host");
        JointHistory x = withFourFrames();
        due("not strict, nothing above is", x.origin(2), 1);
        x.content(10, 96, NO_FRAME, true);
        x.navigate(0, 64, true);
        int boxed = x.frame(0, 0);
        due("the window is free", x.origin(0), 1);
        due("strict", x.origin(boxed), 5);
        due("below strict", x.origin(x.frame(boxed, 0)), 6);
        due("beside strict", x.origin(x.frame(0, 1)), 1);
        x.content(10, 96, NO_FRAME, false);
        x.navigate(boxed, 80, true);
        due("the answer counts when it is asked for", x.origin(boxed), 1);
        x.content(8, 80, 88, true);
        x.navigate(0, 64, true);
        due("strict window and all below", x.count(OPAQUES), 8);
        x.content(8, 80, 88, false);
        x.navigate(x.frame(0, 0), 0, false);
        due("a frame of the old document is below a sandbox yet", x.origin(x.frame(0, 0)), 12);
    }

    private static void framesByLevel() {
        sentence("both of the answer for the window, the first of the two for a frame of a document of the window, none for the others");
        JointHistory x = new JointHistory();
        x.content(1, 8, 9, false);
        x.navigate(0, 8, false);
        due("all", x.count(NAVIGABLES), 5);
        due("first of the window", x.url(x.frame(0, 0)), 8);
        due("second of the window", x.url(x.frame(0, 1)), 9);
        due("first of a frame", x.url(x.frame(1, 0)), 8);
        due("no second of a frame", x.frame(1, 1), NONE);
        due("none of the others", x.frame(2, 0), NONE);
        x.navigate(2, 16, false);
        x.navigate(2, 8, false);
        due("nor later", x.frame(2, 0), NONE);
        x.navigate(1, 16, false);
        x.navigate(1, 8, false);
        due("one for a frame, later, too", x.url(x.frame(1, 0)), 8);
        due("no second then", x.frame(1, 1), NONE);
    }

    private static void secondFrameOnly() {
        sentence("when the answer has a second frame only, that is its first");
        JointHistory x = new JointHistory();
        x.content(1, NO_FRAME, 16, false);
        x.content(2, NO_FRAME, BLANK, false);
        x.navigate(0, 8, false);
        due("in the window", x.frame(0, 0), 1);
        due("no second in the window", x.frame(0, 1), NONE);
        due("its url", x.url(1), 16);
        due("in the frame", x.frame(1, 0), 2);
        due("no second in the frame", x.frame(1, 1), NONE);
        due("its url there", x.url(2), BLANK);
        due("its origin there", x.origin(2), 0);
        x.content(1, 16, NO_FRAME, false);
        x.navigate(0, 8, true);
        due("a first only", x.url(x.frame(0, 0)), 16);
        due("has no second", x.frame(0, 1), NONE);
    }

    private static void leastNumber() {
        sentence("A frame gets the least number above 0 that no navigable has");
        JointHistory x = withTwoFrames();
        x.detach(1);
        x.content(12, 16, NO_FRAME, false);
        x.navigate(2, 96, false);
        due("1 is free again", x.frame(2, 0), 1);
        x.content(9, 80, 88, false);
        x.navigate(0, 72, false);
        due("hidden ones have theirs", x.frame(0, 0), 3);
        due("hidden ones have theirs, second", x.frame(0, 1), 4);
        x.detach(3);
        x.go(-1);
        due("back at 2 and 1", x.frame(2, 0), 1);
        due("1 out", x.detach(1), 2);
        x.go(1);
        x.navigate(4, 96, false);
        due("1 before 3", x.frame(4, 0), 1);
        x.navigate(0, 64, false);
        due("the gap", x.frame(0, 0), 3);
        due("and then the next", x.frame(0, 1), 5);
    }

    private static void numbersWhileFull() {
        sentence("A frame gets the least number above 0 that no navigable has (as many as there may be)");
        JointHistory x = withFourFrames();
        x.content(0, 80, 88, false);
        x.go(-1);
        x.navigate(0, 64, true);
        int[] first = {5, 1, 9, 13, 17, 21, 25};
        for (int i = 1; i <= 6; i++) {
            due("push " + i, x.navigate(0, i % 2 == 0 ? 64 : 0, false), i);
            due("first frame " + i, x.frame(0, 0), first[i]);
        }
        due("entries", x.count(ENTRIES), 35);
        due("replacing at 35, with 28 frames", x.navigate(0, 0, true), 6);
        due("four more numbers", x.frame(0, 0), 29);
        due("the last of them", x.frame(x.frame(0, 1), 0), 32);
        due("35 again", x.count(ENTRIES), 35);
        due("the old ones are free", x.navigate(0, 64, false), 7);
        due("the least free one", x.frame(0, 0), 25);
        due("the last", x.frame(x.frame(0, 1), 0), 28);
        due("forty", x.count(ENTRIES), 40);
        due("thirty-three navigables", x.count(NAVIGABLES), 33);
        due("five are shown", x.count(SHOWN), 5);
    }

    private static void oneFrameAfterTheOther() {
        sentence("with all that belongs to it before the next frame is made");
        JointHistory x = new JointHistory();
        x.content(8, 80, 88, true);
        x.content(10, 96, NO_FRAME, false);
        x.content(11, BLANK, NO_FRAME, false);
        x.navigate(0, 64, false);
        due("the first", x.frame(0, 0), 1);
        due("the one in it", x.frame(1, 0), 2);
        due("the second", x.frame(0, 1), 3);
        due("the one in that", x.frame(3, 0), 4);
        for (int n = 0; n <= 4; n++) {
            due("origins in the same order, " + n, x.origin(n), 5 + n);
            due("the step of this loading, " + n, x.step(n), 1);
            due("the state, " + n, x.state(n), 0);
            due("one entry, " + n, x.entries(n), n == 0 ? 2 : 1);
        }
    }

    private static void urlToWhichTheDetoursLed() {
        sentence("The entry that a document is loaded for has the URL to which the detours led");
        JointHistory x = new JointHistory();
        x.detour(1, 16);
        x.detour(9, 130);
        x.content(2, 72, BLANK, false);
        x.navigate(0, 13, false);
        due("the window's", x.url(0), 21);
        due("a frame's", x.url(1), 130);
        due("a frame's origin is that of its host", x.origin(1), 2);
        due("an empty frame's", x.url(2), BLANK);
        due("the URL asked for is not that of the entry", x.navigate(0, 13, false), 2);
        due("that is the one it led to", x.navigate(0, 21, false), 2);
        due("no hash so far", x.count(HASHES), 0);
    }

    private static void firstEntry() {
        sentence("At first the window has one entry with the step 0 and the state 0, for which BLANK is loaded");
        same("a new object", seen(new JointHistory()),
                "present 0 of 1, counts 1 1 1 0 0 1; 0: url -1 state 0 step 0 origin 4 entries 1");
    }

    // Terms: pushing, replacing, full room, used steps

    private static void pushingRemoves() {
        sentence("all entries of all navigables (shown or not) with a step greater than the present step are removed");
        JointHistory x = withTwoFrames();
        x.navigate(1, 0, false);
        x.navigate(0, 65, false);
        x.navigate(2, 8, false);
        x.go(-2);
        due("at the frame's own step", x.present(), 2);
        x.rewrite(1, BLANK, 1, true);
        due("that with the present step stays", x.entries(1), 3);
        due("a shown one's later is removed", x.entries(2), 1);
        due("the window's later, too", x.entries(0), 2);
        due("the step after the present", x.present(), 3);
        JointHistory y = withTwoFrames();
        y.rewrite(0, 65, 0, true);
        y.navigate(1, 0, false);
        y.go(-2);
        y.navigate(0, 8, true);
        due("the frames are there, but not shown", y.count(NAVIGABLES) * 10 + y.count(SHOWN), 31);
        y.navigate(0, 16, false);
        due("removed with the last entry of their document", y.count(NAVIGABLES), 1);
        due("all of theirs, too", y.count(ENTRIES), 3);
    }

    private static void hiddenEntriesAreRemoved() {
        sentence("all entries of all navigables (shown or not) (of one that is hidden and stays)");
        JointHistory x = withTwoFrames();
        x.rewrite(0, 65, 0, true);
        x.rewrite(0, 66, 0, true);
        x.rewrite(1, 81, 0, true);
        due("between two entries with the document", x.go(-2), 2);
        due("another document", x.navigate(0, 8, true), 2);
        due("the frames are hidden", x.count(SHOWN), 1);
        due("of the window 4, of the frames 2 and 1", x.count(ENTRIES), 7);
        due("a push", x.navigate(0, 16, false), 3);
        due("takes the later ones of the window and of the frame", x.count(ENTRIES), 6);
        due("the frames are there", x.count(NAVIGABLES), 3);
        due("back to where they are shown", x.go(-2), 1);
        due("its first entry is left", x.entries(1), 1);
        due("with its URL", x.url(1), 80);
    }

    private static void pushedStep() {
        sentence("a new entry, whose step is one more than the present step, is added at the end of its row, and its step is the present step");
        JointHistory x = withTwoFrames();
        x.navigate(1, 0, false);
        x.navigate(1, 8, false);
        x.navigate(0, 16, false);
        x.go(-1);
        due("the frame out leaves 0, 1 and 4", x.detach(1), 1);
        due("three steps", x.length(), 3);
        due("the next of them is 4", x.go(1), 4);
        due("5 after 4", x.rewrite(0, BLANK, 0, true), 5);
        x.go(-2);
        due("at 1", x.present(), 1);
        due("2 after 1, though it was not used", x.rewrite(0, BLANK, 0, true), 2);
        due("4 and 5 are removed", x.length(), 3);
        due("present", x.present(), 2);
        due("the window's step", x.step(0), 2);
    }

    private static void replacingKeepsItsStep() {
        sentence("the present entry of the navigable gets another URL, state and document, and keeps its step");
        JointHistory x = withTwoFrames();
        x.rewrite(2, BLANK, 5, true);
        x.rewrite(1, BLANK, 7, false);
        due("the state of its entry", x.state(1), 7);
        due("answers the present step", x.navigate(1, 128, true), 2);
        due("url", x.url(1), 128);
        due("state", x.state(1), 0);
        due("document", x.origin(1), 2);
        due("step", x.step(1), 1);
        due("entries", x.entries(1), 1);
        due("the other is as it was", x.state(2), 5);
        due("later steps stay", x.go(-1), 1);
        x.navigate(1, 0, true);
        due("on again", x.go(1), 2);
        due("the replaced one is that of the step 2, too", x.url(1), 0);
    }

    private static void stepOfALoading() {
        sentence("that is done with the step of that entry, after the removal, and before the old document of the replaced one is taken from it");
        JointHistory x = withTwoFrames();
        x.rewrite(1, BLANK, 0, true);
        x.navigate(0, 64, true);
        due("frames of a replaced entry have its step", x.step(x.frame(0, 0)), 1);
        due("the old ones had their numbers yet", x.frame(0, 0), 3);
        due("the second, too", x.frame(0, 1), 4);
        x.navigate(0, 64, true);
        due("1 is free then", x.frame(0, 0), 1);
        x.go(-1);
        x.navigate(0, 64, false);
        due("after the removal all are free", x.frame(0, 0), 1);
        due("frames of a new entry have its step", x.step(1), 1);
        x.content(9, 80, NO_FRAME, false);
        x.navigate(0, 72, false);
        due("the new step", x.step(x.frame(0, 0)), 2);
        due("the number beside those that stay", x.frame(0, 0), 3);
    }

    private static void fullWhenPushing() {
        sentence("There is FULL room when 36 or more entries would be there otherwise: of all navigables, when pushing those with a step not greater than the present step");
        JointHistory x = withEntries(35);
        due("35", x.count(ENTRIES), 35);
        due("a push at 35", x.navigate(0, 8, false), 35);
        due("36", x.count(ENTRIES), 36);
        due("a push at 36", x.navigate(0, 16, false), FULL);
        due("a fragment at 36", x.navigate(0, 9, false), FULL);
        due("a rewrite at 36", x.rewrite(0, 16, 0, true), FULL);
        due("back to 35 of them", x.go(-1), 34);
        due("a push at 35 with one later", x.navigate(0, 16, false), 35);
        due("one is removed for it", x.count(ENTRIES), 36);
        due("back again", x.go(-1), 34);
        due("a rewrite at 35 with one later", x.rewrite(0, BLANK, 1, true), 35);
        due("still 36", x.count(ENTRIES), 36);
        due("full again", x.rewrite(0, BLANK, 1, true), FULL);
    }

    private static void fullWhenReplacing() {
        sentence("There is FULL room when 36 or more entries would be there otherwise: of all navigables, when replacing all");
        JointHistory x = withEntries(35);
        due("replacing at 35", x.navigate(0, 8, true), 34);
        due("the same URL at 35", x.navigate(0, 8, false), 34);
        due("a fragment at 35", x.navigate(0, 9, true), 34);
        due("a rewrite at 35", x.rewrite(0, 10, 4, false), 34);
        due("35 still", x.count(ENTRIES), 35);
        x.rewrite(0, BLANK, 5, true);
        due("replacing at 36", x.navigate(0, 8, true), FULL);
        due("the same URL at 36", x.navigate(0, 10, false), FULL);
        due("a fragment at 36", x.navigate(0, 9, true), FULL);
        due("a rewrite at 36", x.rewrite(0, 11, 4, false), FULL);
        due("to the first step", x.go(-35), 0);
        due("replacing there counts the later ones", x.navigate(0, 8, true), FULL);
        due("the empty page on itself, too", x.navigate(0, BLANK, false), FULL);
        due("a rewrite there, too", x.rewrite(0, BLANK, 4, false), FULL);
        due("pushing there counts one", x.navigate(0, 8, false), 1);
        due("two are left", x.count(ENTRIES), 2);
    }

    private static void fullWithFrames() {
        sentence("There is FULL room when 36 or more entries would be there otherwise: of all navigables");
        JointHistory x = withEntries(31);
        x.content(8, 80, 88, false);
        x.navigate(0, 64, false);
        due("32 of the window, 2 of frames", x.count(ENTRIES), 34);
        due("a frame's push at 34", x.navigate(1, 0, false), 32);
        due("a frame's push at 35", x.navigate(2, 0, false), 33);
        due("a frame's push at 36", x.navigate(1, 8, false), FULL);
        due("a frame's replacing at 36", x.navigate(1, 8, true), FULL);
        due("the window's push at 36", x.navigate(0, 8, false), FULL);
        due("a frame out", x.detach(2), 32);
        due("34 then", x.count(ENTRIES), 34);
        due("the window's push at 34", x.navigate(0, 8, false), 33);
        due("hidden ones count", x.count(SHOWN), 1);
        due("the window's push at 35", x.navigate(0, 16, false), 34);
        due("the window's push at 36, three hidden", x.navigate(0, 24, false), FULL);
    }

    /** The window has so many entries, each with a document of its own, whose origins are 4, 5, ... */
    private static JointHistory withDocuments(int documents) {
        JointHistory x = new JointHistory();
        x.content(8, 80, 88, true);
        x.content(9, 80, 88, true);
        x.content(10, 96, NO_FRAME, false);
        x.content(11, 104, NO_FRAME, false);
        x.fault(0);
        x.fault(1);
        for (int i = 1; i < documents; i++) {
            due("a document for each entry", x.navigate(0, i % 2 * 8, false), i);
        }
        return x;
    }

    private static void dueFiveDocuments(JointHistory x, int first) {
        due("five are shown", x.count(SHOWN), 5);
        int origin = first;
        for (int k = 0; k < 2; k++) {
            int frame = x.frame(0, k);
            due("the document of a frame", x.origin(frame), origin + 1);
            due("the document in it", x.origin(x.frame(frame, 0)), origin + 2);
            origin += 2;
        }
        due("the window's document", x.origin(0), first);
    }

    private static void dueDocumentsBefore(JointHistory x) {
        for (int i = x.present() - 1; i >= 0; i--) {
            due("back to the step", x.go(-1), i);
            due("the document of the step " + i, x.origin(0), 4 + i);
        }
        due("no step before the first", x.go(-1), NONE);
    }

    private static void documentsWhenPushing() {
        sentence("36 or more entries would be there otherwise (pushing, each entry with a document of its own)");
        JointHistory x = withDocuments(35);
        for (int round = 0; round < 3; round++) {
            due("five more", x.navigate(0, round % 2 == 0 ? 64 : 72, false), 35);
            due("forty", x.count(ENTRIES), 40);
            dueFiveDocuments(x, 39 + 5 * round);
            due("back", x.go(-1), 34);
        }
        dueDocumentsBefore(x);
    }

    private static void documentsWhenReplacing() {
        sentence("36 or more entries would be there otherwise (replacing, each entry with a document of its own)");
        JointHistory x = withDocuments(30);
        due("five more", x.navigate(0, 64, false), 30);
        due("35", x.count(ENTRIES), 35);
        for (int round = 0; round < 4; round++) {
            dueFiveDocuments(x, 34 + 5 * round);
            due("five in place of five", x.navigate(0, round % 2 == 0 ? 72 : 64, true), 30);
            due("35 still", x.count(ENTRIES), 35);
        }
        dueDocumentsBefore(x);
    }

    private static void fullByWhatWouldGo() {
        sentence("when pushing those with a step not greater than the present step (also of frames that go with the removal)");
        JointHistory x = withEntries(31);
        x.content(8, 80, 88, false);
        x.navigate(0, 64, false);
        x.navigate(0, 65, false);
        due("back to the first entry of the document", x.go(-1), 31);
        due("two more frames for it", x.navigate(0, 64, true), 31);
        due("the old frames have the step 31 and are hidden", x.count(NAVIGABLES), 5);
        due("36 up to the step 31, and one later", x.count(ENTRIES), 37);
        due("full", x.navigate(0, 0, false), FULL);
        due("full for a rewrite", x.rewrite(0, BLANK, 0, true), FULL);
        due("a frame out", x.detach(x.frame(0, 0)), 31);
        due("35 up to the step 31", x.navigate(0, 0, false), 32);
        due("the old frames are gone", x.count(NAVIGABLES), 2);
        due("their entries, too", x.count(ENTRIES), 34);
    }

    private static void usedByHiddenOnes() {
        sentence("USED are the steps of all entries of all navigables, shown or not");
        JointHistory x = withTwoFrames();
        x.navigate(1, 0, false);
        x.navigate(0, 65, false);
        x.go(-1);
        due("the window's entry of the step 1 is replaced", x.navigate(0, 8, true), 2);
        due("no frame is shown", x.count(SHOWN), 1);
        due("but its step is used yet", x.length(), 4);
        due("and gone to", x.go(-1), 1);
        due("and back", x.go(1), 2);
        due("the window's step there", x.step(0), 1);
        JointHistory y = withFourFrames();
        due("several entries with one step", y.count(ENTRIES), 6);
        due("use it once", y.length(), 2);
    }

    private static void fallingAfterReplacing() {
        sentence("When the present step is not used any more at the end of replacing, it becomes the greatest used step below it");
        JointHistory x = withTwoFrames();
        x.navigate(1, 0, false);
        due("by one", x.navigate(0, 64, true), 1);
        int frame = x.frame(0, 0);
        for (int i = 2; i <= 5; i++) {
            due("the frame's pushes", x.rewrite(frame, BLANK, i, true), i);
        }
        due("by four", x.navigate(0, 64, true), 1);
        due("used steps", x.length(), 2);
        frame = x.frame(0, 0);
        x.rewrite(frame, BLANK, 0, true);
        x.rewrite(x.frame(0, 1), BLANK, 0, true);
        x.navigate(0, 8, false);
        due("to the last of the frames'", x.go(-1), 3);
        due("never up to a greater one", x.navigate(0, 16, true), 1);
        due("which stays", x.go(1), 4);
        JointHistory y = withFourFrames();
        y.navigate(3, 8, false);
        y.navigate(2, 8, false);
        due("to a step between", y.navigate(1, 80, true), 2);
        due("its frame's entries are gone", y.length(), 3);
        due("a used one stays", y.navigate(1, 8, true), 2);
    }

    private static void fallingAfterTakingOut() {
        sentence("When the present step is not used any more at the end of taking a frame out, it becomes the greatest used step below it");
        JointHistory x = withTwoFrames();
        x.navigate(1, 0, false);
        x.navigate(1, 8, false);
        due("by two", x.detach(1), 1);
        due("used steps", x.length(), 2);
        x.navigate(2, 0, false);
        x.navigate(0, 0, false);
        x.go(-1);
        due("never up to a greater one", x.detach(2), 1);
        due("which stays", x.go(1), 3);
        JointHistory y = withTwoFrames();
        y.content(12, 0, NO_FRAME, false);
        y.navigate(1, 96, false);
        due("its inner frame has the present step, too", y.step(y.frame(1, 0)), 2);
        due("it is used yet", y.detach(y.frame(1, 0)), 2);
        y.navigate(2, 0, false);
        due("one of another frame", y.detach(1), 3);
        due("2 is not used any more", y.length(), 3);
        due("the window's first", y.go(-2), 0);
        JointHistory z = new JointHistory();
        z.content(8, 80, 88, false);
        z.navigate(0, 64, true);
        z.rewrite(1, BLANK, 0, true);
        due("to the step 0", z.detach(1), 0);
        due("which is never gone", z.detach(2), 0);
    }

    private static void orderOfRefusals() {
        sentence("What a call is refused for is looked at in the order in which it is named there");
        JointHistory x = withEntries(36);
        due("navigate, all at once", x.navigate(1, 256, false), BAD);
        due("navigate, bad and full", x.navigate(0, -2, true), BAD);
        due("navigate, hidden and full", x.navigate(1, 255, false), HIDDEN);
        due("navigate, full", x.navigate(0, 255, false), FULL);
        due("rewrite, all at once", x.rewrite(1, -2, 0, true), BAD);
        due("rewrite, bad and full", x.rewrite(0, 256, 0, false), BAD);
        due("rewrite, hidden and full", x.rewrite(1, 0, 0, true), HIDDEN);
        due("rewrite, forbidden and full", x.rewrite(0, 0, 0, true), FORBIDDEN);
        due("rewrite, forbidden and full, replacing", x.rewrite(0, 255, 0, false), FORBIDDEN);
        due("rewrite, full", x.rewrite(0, BLANK, 0, true), FULL);
        due("frame, hidden and none", x.frame(1, 2), HIDDEN);
        due("frame, none", x.frame(0, 2), NONE);
        due("detach, bad though shown", x.detach(0), BAD);
    }

    private static JointHistory beforeRefusals() {
        JointHistory x = withFourFrames();
        x.rewrite(1, 81, 3, true);
        x.navigate(3, 0, false);
        x.navigate(0, 128, false);
        x.go(-2);
        return x;
    }

    private static void refusedChangesNothing() {
        sentence("a refused call changes nothing");
        JointHistory x = beforeRefusals();
        String now = seen(x);
        due("content", x.content(8, 256, 0, true), false);
        due("content, b", x.content(8, 0, -3, true), false);
        due("detour", x.detour(10, 256), false);
        due("detour to the empty page", x.detour(10, BLANK), false);
        due("fault", x.fault(32), false);
        due("navigate, bad", x.navigate(0, 256, false), BAD);
        due("navigate, hidden", x.navigate(7, 0, false), HIDDEN);
        due("rewrite, bad", x.rewrite(0, -2, 9, true), BAD);
        due("rewrite, hidden", x.rewrite(5, BLANK, 9, true), HIDDEN);
        due("rewrite, forbidden", x.rewrite(0, 0, 9, true), FORBIDDEN);
        due("rewrite, forbidden, replacing", x.rewrite(0, 128, 9, false), FORBIDDEN);
        due("go", x.go(3), NONE);
        due("go back", x.go(-3), NONE);
        due("detach, bad", x.detach(0), BAD);
        due("detach, hidden", x.detach(5), HIDDEN);
        same("at the present step", seen(x), now);
        JointHistory untouched = beforeRefusals();
        same("at each step", seenAtEachStep(x), seenAtEachStep(untouched));
        x.navigate(0, 64, false);
        untouched.navigate(0, 64, false);
        same("the answers of the pages", seen(x), seen(untouched));
    }

    private static JointHistory beforeFull() {
        JointHistory x = withEntries(34);
        x.content(8, 80, NO_FRAME, false);
        x.navigate(0, 64, false);
        x.rewrite(1, 83, 6, false);
        x.go(-34);
        x.go(34);
        return x;
    }

    private static void fullChangesNothing() {
        sentence("a refused call changes nothing (FULL)");
        JointHistory x = beforeFull();
        String now = seen(x);
        due("36", x.count(ENTRIES), 36);
        due("navigate", x.navigate(0, 0, false), FULL);
        due("navigate to where frames are", x.navigate(0, 64, true), FULL);
        due("a fragment", x.navigate(1, 84, false), FULL);
        due("a fragment, replacing", x.navigate(1, 84, true), FULL);
        due("the empty page", x.navigate(1, BLANK, false), FULL);
        due("rewrite", x.rewrite(1, 85, 9, true), FULL);
        due("rewrite, replacing", x.rewrite(1, 85, 9, false), FULL);
        same("at the present step", seen(x), now);
        x.go(-1);
        now = seen(x);
        due("replacing before a later one", x.navigate(0, 64, true), FULL);
        due("a rewrite before a later one", x.rewrite(0, BLANK, 9, false), FULL);
        same("at the step before", seen(x), now);
        JointHistory untouched = beforeFull();
        untouched.go(-1);
        x.navigate(0, 64, false);
        untouched.navigate(0, 64, false);
        same("what a push makes then", seen(x), seen(untouched));
    }

    // Promises 2 to 4

    private static void rangesOfContent() {
        sentence("false when page is not 0 .. 31 or a or b is not -2 .. 255");
        JointHistory x = new JointHistory();
        int[] badPages = {-1, 32, 255, LEAST, GREATEST};
        for (int page : badPages) {
            due("page " + page, x.content(page, 0, 0, false), false);
        }
        int[] badFrames = {-3, 256, LEAST, GREATEST};
        for (int frame : badFrames) {
            due("a " + frame, x.content(1, frame, 0, true), false);
            due("b " + frame, x.content(1, 0, frame, true), false);
            due("a and b " + frame, x.content(1, frame, frame, true), false);
        }
        x.navigate(0, 8, false);
        due("the answer is as it was", x.origin(0), 0);
        due("its frames, too", x.frame(0, 0), NONE);
        int[] frames = {-2, -1, 0, 255};
        for (int frame : frames) {
            due("page 0, a " + frame, x.content(0, frame, NO_FRAME, false), true);
            due("page 31, b " + frame, x.content(31, NO_FRAME, frame, false), true);
            x.navigate(0, 0, true);
            x.navigate(0, 0, true);
            due("its first frame " + frame, x.url(x.frame(0, 0)), frame == NO_FRAME ? HIDDEN : frame);
            x.navigate(0, 248, true);
            due("its second frame " + frame, x.url(x.frame(0, 0)), frame == NO_FRAME ? HIDDEN : frame);
        }
    }

    private static void noFrame() {
        sentence("content with the frames a and b (NO_FRAME for none), strict or not");
        JointHistory x = new JointHistory();
        due("none", x.content(1, NO_FRAME, NO_FRAME, true), true);
        x.navigate(0, 8, false);
        due("no frame", x.frame(0, 0), NONE);
        due("strict", x.origin(0), 5);
        due("an empty one", x.content(1, BLANK, BLANK, false), true);
        due("what is loaded stays", x.origin(0), 5);
        x.navigate(0, 8, true);
        due("frames that show the empty page", x.url(x.frame(0, 1)), BLANK);
        due("not strict any more", x.origin(0), 0);
        x.fault(1);
        due("content after a fault", x.content(1, NO_FRAME, NO_FRAME, false), true);
        x.navigate(0, 8, true);
        due("its origin", x.origin(0), 0);
        x.detour(1, 128);
        due("content after a detour", x.content(1, NO_FRAME, NO_FRAME, false), true);
        x.navigate(0, 8, true);
        due("its url", x.url(0), 8);
    }

    private static void rangesOfDetour() {
        sentence("false when page is not 0 .. 31 or url is not 0 .. 255");
        JointHistory x = new JointHistory();
        int[] badPages = {-1, 32, 255, LEAST, GREATEST};
        for (int page : badPages) {
            due("page " + page, x.detour(page, 0), false);
        }
        int[] badUrls = {-1, -2, 256, LEAST, GREATEST};
        for (int url : badUrls) {
            due("url " + url, x.detour(0, url), false);
        }
        x.navigate(0, 0, false);
        due("the answer is as it was", x.url(0), 0);
        due("page 0 to 255", x.detour(0, 255), true);
        due("page 31 to 0", x.detour(31, 0), true);
        x.navigate(0, 0, true);
        due("from 0 over 255 and round", x.url(0), 7);
        x.content(0, NO_FRAME, NO_FRAME, false);
        x.navigate(0, 248, true);
        due("from 248 to 0", x.url(0), 0);
    }

    private static void rangesOfFault() {
        sentence("The page's answer is a fault: true; false when page is not 0 .. 31");
        JointHistory x = new JointHistory();
        int[] badPages = {-1, 32, 255, LEAST, GREATEST};
        for (int page : badPages) {
            due("page " + page, x.fault(page), false);
        }
        x.navigate(0, 248, true);
        due("the answer is as it was", x.origin(0), 3);
        x.content(31, 0, 0, false);
        due("page 0", x.fault(0), true);
        due("page 31", x.fault(31), true);
        x.navigate(0, 248, true);
        due("31 is a fault", x.origin(0), 5);
        due("without frames", x.frame(0, 0), NONE);
        x.navigate(0, 7, true);
        due("0 is a fault", x.origin(0), 6);
        due("its url", x.url(0), 7);
        x.navigate(0, 8, true);
        due("1 is none", x.origin(0), 0);
    }

    // Promise 5

    private static void replacingOrPushing() {
        sentence("Replacing is done when replace is true or the URL is that of the present entry, otherwise pushing");
        JointHistory x = new JointHistory();
        due("the empty page on itself", x.navigate(0, BLANK, false), 0);
        due("it is loaded anew", x.origin(0), 5);
        due("another URL", x.navigate(0, 8, false), 1);
        due("the same", x.navigate(0, 8, false), 1);
        due("another fragment", x.navigate(0, 9, false), 2);
        due("the same fragment", x.navigate(0, 9, false), 2);
        due("without the fragment", x.navigate(0, 8, false), 3);
        due("the same, replace is true", x.navigate(0, 8, true), 3);
        due("another, replace is true", x.navigate(0, 16, true), 3);
        x.go(-1);
        due("the same before a later one", x.navigate(0, 9, false), 2);
        due("removes nothing", x.length(), 4);
        due("the later one's URL", x.navigate(0, 16, false), 3);
        due("is pushed", x.length(), 4);
    }

    private static void withoutLoading() {
        sentence("When url is no BLANK, has a fragment, and the present entry's URL is of the same page (and no BLANK), nothing is loaded");
        JointHistory x = withTwoFrames();
        x.fault(8);
        due("the least fragment", x.navigate(0, 65, false), 2);
        due("the greatest", x.navigate(0, 71, true), 2);
        due("the document is the same", x.frame(0, 0) * 10 + x.frame(0, 1), 12);
        due("its origin", x.origin(0), 1);
        due("the next page's first fragment is loaded", x.navigate(0, 73, false), 3);
        due("without frames", x.frame(0, 0), NONE);
        x.go(-1);
        due("no fragment is loaded", x.navigate(0, 64, false), 3);
        due("by the answer there is now", x.origin(0), 5);
        due("a fragment of what was a fault", x.navigate(0, 66, false), 4);
        due("is not loaded", x.origin(0), 5);
        x.navigate(0, BLANK, true);
        x.content(0, NO_FRAME, NO_FRAME, false);
        due("a fragment of page 0 after the empty page", x.navigate(0, 1, true), 4);
        due("is loaded", x.origin(0), 0);
        x.detour(0, 128);
        due("the answer is not asked for a fragment", x.navigate(0, 2, false), 5);
        due("no detour", x.url(0), 2);
    }

    private static void hashOfNavigate() {
        sentence("the state 0; and if the URL is not that of the present entry, a HASH is counted");
        JointHistory x = new JointHistory();
        x.navigate(0, 8, false);
        x.rewrite(0, BLANK, 5, false);
        x.navigate(0, 9, false);
        due("a new entry", x.count(HASHES), 1);
        due("state of it", x.state(0), 0);
        x.rewrite(0, BLANK, 5, false);
        x.navigate(0, 9, false);
        due("the same URL", x.count(HASHES), 1);
        due("state of that", x.state(0), 0);
        x.navigate(0, 9, true);
        due("the same URL, replace is true", x.count(HASHES), 1);
        x.rewrite(0, BLANK, 5, false);
        x.navigate(0, 15, true);
        due("another one replaces", x.count(HASHES), 2);
        due("state of the replaced", x.state(0), 0);
        x.navigate(0, 8, true);
        due("none when it is loaded", x.count(HASHES), 2);
        due("no pop by any", x.count(POPS), 0);
    }

    private static void rangesOfNavigate() {
        sentence("Refused: BAD when url is not -1 .. 255; HIDDEN when n is not shown; FULL (navigate)");
        JointHistory x = withTwoFrames();
        int[] badUrls = {-2, 256, LEAST, GREATEST};
        for (int url : badUrls) {
            due("url " + url, x.navigate(0, url, false), BAD);
            due("url of a hidden one " + url, x.navigate(9, url, true), BAD);
        }
        int[] hidden = {-1, 3, 39, 40, 41, LEAST, GREATEST};
        for (int n : hidden) {
            due("n " + n, x.navigate(n, 0, false), HIDDEN);
        }
        due("url 0", x.navigate(0, 0, false), 2);
        due("a frame of another document", x.navigate(1, 0, false), HIDDEN);
        due("url 255", x.navigate(0, 255, false), 3);
        due("url -1", x.navigate(0, -1, false), 4);
    }

    // Promise 6

    private static void ownUrl() {
        sentence("with this URL, or with the present entry's own when url is BLANK");
        JointHistory x = withTwoFrames();
        due("its own, pushed", x.rewrite(1, BLANK, 1, true), 2);
        due("url", x.url(1), 80);
        due("this one", x.rewrite(1, 87, 2, false), 2);
        due("url then", x.url(1), 87);
        due("its own, replaced", x.rewrite(1, BLANK, LEAST, false), 2);
        due("url as before", x.url(1), 87);
        due("the least state", x.state(1), LEAST);
        due("the greatest state", x.rewrite(1, BLANK, GREATEST, true), 3);
        due("is kept", x.state(1), GREATEST);
        due("the same URL is pushed, too", x.rewrite(1, 87, 0, true), 4);
        due("no hash by any", x.count(HASHES), 0);
        x.fault(10);
        due("another page of the host", x.rewrite(1, 127, 0, true), 5);
        due("has the document yet", x.origin(1), 1);
    }

    private static void forbiddenOnes() {
        sentence("FORBIDDEN when url is no BLANK and the present entry's URL is BLANK, has another host, or has the host 3 and another page");
        JointHistory x = new JointHistory();
        due("from the empty page to 0", x.rewrite(0, 0, 0, true), FORBIDDEN);
        due("from the empty page to 255", x.rewrite(0, 255, 0, false), FORBIDDEN);
        due("from the empty page to itself", x.rewrite(0, BLANK, 0, false), 0);
        int[] least = {0, 64, 128, 192};
        for (int from : least) {
            x.navigate(0, from, true);
            due("below the host of " + from, x.rewrite(0, from == 0 ? 255 : from - 1, 0, false), FORBIDDEN);
            due("above the host of " + from, x.rewrite(0, (from + 64) % 256, 0, false), FORBIDDEN);
            due("the page's last of " + from, x.rewrite(0, from + 7, 0, false), 0);
            due("the next page of " + from, x.rewrite(0, from + 8, 0, false), from == 192 ? FORBIDDEN : 0);
            due("the host's last of " + from, x.rewrite(0, from + 63, 0, false), from == 192 ? FORBIDDEN : 0);
            due("back to the first of " + from, x.rewrite(0, from, 0, false), 0);
        }
        x.navigate(0, 255, true);
        due("the last page of the host 3", x.rewrite(0, 248, 0, false), 0);
        due("the page before", x.rewrite(0, 247, 0, false), FORBIDDEN);
        due("its own", x.rewrite(0, BLANK, 0, true), 1);
        x.detour(1, 200);
        x.navigate(0, 8, false);
        due("the host to which the detour led", x.rewrite(0, 15, 0, true), FORBIDDEN);
        due("its page", x.rewrite(0, 201, 0, true), 3);
        x.content(0, NO_FRAME, NO_FRAME, true);
        x.navigate(0, 0, false);
        due("a sandbox does not matter", x.rewrite(0, 63, 0, true), 5);
    }

    private static void rangesOfRewrite() {
        sentence("Refused: BAD when url is not -1 .. 255; HIDDEN when n is not shown (rewrite)");
        JointHistory x = withTwoFrames();
        int[] badUrls = {-2, 256, LEAST, GREATEST};
        for (int url : badUrls) {
            due("url " + url, x.rewrite(0, url, 0, true), BAD);
            due("url of a hidden one " + url, x.rewrite(9, url, 0, false), BAD);
        }
        int[] hidden = {-1, 3, 39, 40, 41, LEAST, GREATEST};
        for (int n : hidden) {
            due("n " + n, x.rewrite(n, BLANK, 0, true), HIDDEN);
            due("hidden before forbidden, n " + n, x.rewrite(n, 255, 0, false), HIDDEN);
        }
        x.navigate(0, 255, false);
        due("a frame of another document", x.rewrite(1, 80, 0, true), HIDDEN);
        due("url 255", x.rewrite(0, 255, 0, true), 3);
        due("url -1", x.rewrite(0, -1, 0, true), 4);
    }

    // Promise 7

    private static void noSuchStep() {
        sentence("NONE when there is no such step");
        JointHistory x = withTwoFrames();
        x.navigate(1, 0, false);
        x.navigate(0, 0, false);
        int[] tooFar = {1, 2, -4, -5, LEAST, LEAST + 1, GREATEST, GREATEST - 1};
        for (int delta : tooFar) {
            due("from the last by " + delta, x.go(delta), NONE);
        }
        due("as far as it goes", x.go(-3), 0);
        int[] tooFarThen = {-1, 4, 5, LEAST, GREATEST};
        for (int delta : tooFarThen) {
            due("from the first by " + delta, x.go(delta), NONE);
        }
        due("as far as it goes on", x.go(3), 3);
        x.go(-2);
        int[] between = {-2, 3, LEAST, GREATEST};
        for (int delta : between) {
            due("from between by " + delta, x.go(delta), NONE);
        }
        due("by 0", x.go(0), 1);
        due("no pop by refused ones or by 0", x.count(POPS), 0);
    }

    private static void overTheGaps() {
        sentence("with the used steps in rising order, the present step being the i-th of them, the (i + delta)-th becomes the present step");
        JointHistory x = withTwoFrames();
        x.navigate(2, 0, false);
        x.navigate(1, 0, false);
        x.navigate(1, 8, false);
        x.navigate(2, 8, false);
        due("3 and 4 are out", x.detach(1), 5);
        due("0, 1, 2, 5", x.length(), 4);
        due("back by one", x.go(-1), 2);
        due("the frame's entry there", x.url(2), 0);
        due("back by two", x.go(-2), 0);
        due("on by three", x.go(3), 5);
        due("one too many", x.go(-4), NONE);
    }

    private static void shownBeforeAndAfter() {
        sentence("For each navigable that is shown before and after and whose present entry is another one then");
        JointHistory x = withFourFrames();
        x.rewrite(2, 97, 0, true);
        x.rewrite(1, 81, 0, true);
        x.go(-2);
        due("two have other entries, three the same", x.count(POPS), 2);
        due("two hashes", x.count(HASHES), 2);
        x.go(-1);
        due("the frames are not shown after", x.count(POPS), 2);
        x.go(3);
        due("the frames were not shown before", x.count(POPS), 2);
        x.go(0);
        due("the same entry", x.count(POPS), 2);
        x.navigate(1, 0, false);
        x.go(-1);
        due("another document", x.count(POPS), 2);
        due("no hash then", x.count(HASHES), 2);
        x.go(-2);
        x.navigate(1, 0, true);
        x.go(1);
        due("another document than the replaced one's", x.url(1), 0);
        due("is no pop", x.count(POPS), 4);
    }

    private static void popAndHash() {
        sentence("if it has the same document as the one before, a POP is counted, and if their URLs have different fragments (BLANK counting as 0), a HASH, too");
        JointHistory x = new JointHistory();
        x.rewrite(0, BLANK, 1, true);
        due("empty pages", x.go(-1), 0);
        due("a pop", x.count(POPS), 1);
        due("no hash", x.count(HASHES), 0);
        x.navigate(0, 8, false);
        x.rewrite(0, 16, 0, true);
        x.rewrite(0, 23, 0, true);
        x.rewrite(0, 15, 0, true);
        x.go(-1);
        due("other pages, the same fragment", x.count(HASHES), 0);
        due("a pop for them", x.count(POPS), 2);
        x.go(-1);
        due("7 and none", x.count(HASHES), 1);
        x.go(-1);
        due("none and none", x.count(HASHES), 1);
        x.go(3);
        due("none and 7", x.count(HASHES), 2);
        due("pops", x.count(POPS), 5);
        x.navigate(0, 25, false);
        x.go(-1);
        x.go(1);
        due("another document with another fragment", x.count(HASHES), 2);
        x.go(-5);
        due("another document with the empty page", x.count(HASHES), 2);
        due("no pop for them", x.count(POPS), 5);
    }

    private static void stateAloneIsAPop() {
        sentence("if it has the same document as the one before, a POP is counted (for entries that differ in nothing)");
        JointHistory x = new JointHistory();
        x.navigate(0, 9, false);
        x.rewrite(0, BLANK, 0, true);
        x.go(-1);
        due("a pop", x.count(POPS), 1);
        due("no hash", x.count(HASHES), 0);
        x.navigate(0, 9, true);
        x.go(1);
        due("a replaced fragment has the document yet", x.count(POPS), 2);
        x.navigate(0, 16, false);
        x.navigate(0, 16, false);
        x.go(-1);
        due("another document of another URL", x.count(POPS), 2);
        x.navigate(0, 8, false);
        x.navigate(0, 9, false);
        x.navigate(0, 8, false);
        x.go(-2);
        due("another document of the same URL", x.count(POPS), 2);
    }

    // Promise 8

    private static void takenOut() {
        sentence("Takes the frame n out of its document; it is gone");
        JointHistory x = withFourFrames();
        due("one with another in it", x.detach(1), 1);
        due("both are gone", x.count(NAVIGABLES), 3);
        due("their entries, too", x.count(ENTRIES), 4);
        due("an inner one", x.detach(4), 1);
        due("its place is empty", x.frame(3, 0), NONE);
        due("the last", x.detach(3), 1);
        due("the window is left", x.count(NAVIGABLES), 1);
        due("with two entries", x.count(ENTRIES), 2);
        JointHistory y = withTwoFrames();
        y.navigate(0, 65, false);
        y.detach(1);
        y.go(-1);
        due("out of the document of all its entries", y.frame(0, 0), 2);
        due("no second there", y.frame(0, 1), NONE);
    }

    private static void rangesOfDetach() {
        sentence("Refused: BAD when n is 0; HIDDEN when it is not shown");
        JointHistory x = withTwoFrames();
        due("n 0", x.detach(0), BAD);
        int[] hidden = {-1, 3, 39, 40, 41, LEAST, GREATEST};
        for (int n : hidden) {
            due("n " + n, x.detach(n), HIDDEN);
        }
        x.navigate(0, 0, false);
        due("a frame of another document", x.detach(1), HIDDEN);
        x.go(-1);
        due("it is there yet", x.detach(1), 1);
        due("twice", x.detach(1), HIDDEN);
    }

    // Promises 9 to 14

    private static final int[] NOT_SHOWN = {-1, -7, 1, 2, 3, 39, 40, 41, 255, LEAST, GREATEST};

    private static JointHistory withHiddenFrames() {
        JointHistory x = withTwoFrames();
        x.navigate(0, BLANK, false);
        return x;
    }

    private static void urlOfHidden() {
        sentence("The URL of the present entry of n, BLANK too; HIDDEN when n is not shown");
        JointHistory x = withHiddenFrames();
        due("BLANK too", x.url(0), BLANK);
        for (int n : NOT_SHOWN) {
            due("n " + n, x.url(n), HIDDEN);
        }
        x.navigate(0, 0, false);
        due("the least", x.url(0), 0);
        x.navigate(0, 255, false);
        due("the greatest", x.url(0), 255);
    }

    private static void stateOfHidden() {
        sentence("The state of the present entry of n; 2^40 when n is not shown");
        JointHistory x = withHiddenFrames();
        for (int n : NOT_SHOWN) {
            due("n " + n, x.state(n), NO_STATE);
        }
        int[] states = {LEAST, -7, -4, -1, 0, 1, GREATEST};
        for (int state : states) {
            x.rewrite(0, BLANK, state, false);
            due("state " + state, x.state(0), state);
        }
    }

    private static void stepOfHidden() {
        sentence("The step of the present entry of n; HIDDEN when n is not shown");
        JointHistory x = withHiddenFrames();
        due("the window's", x.step(0), 2);
        for (int n : NOT_SHOWN) {
            due("n " + n, x.step(n), HIDDEN);
        }
    }

    private static void originOfHidden() {
        sentence("The origin of the document of the present entry of n; HIDDEN when n is not shown");
        JointHistory x = withHiddenFrames();
        due("the window's", x.origin(0), 5);
        for (int n : NOT_SHOWN) {
            due("n " + n, x.origin(n), HIDDEN);
        }
    }

    private static void frameOfHidden() {
        sentence("HIDDEN when n is not shown, NONE when there is no such frame");
        JointHistory x = withHiddenFrames();
        int[] places = {LEAST, -2, -1, 0, 1, 2, GREATEST};
        for (int k : places) {
            due("no frames, k " + k, x.frame(0, k), NONE);
            for (int n : NOT_SHOWN) {
                due("n " + n + ", k " + k, x.frame(n, k), HIDDEN);
            }
        }
        x.go(-1);
        for (int k : places) {
            due("two frames, k " + k, x.frame(0, k), k == 0 || k == 1 ? k + 1 : NONE);
            due("a frame without frames, k " + k, x.frame(2, k), NONE);
        }
    }

    private static void entriesOfHidden() {
        sentence("How many entries n has; HIDDEN when n is not shown");
        JointHistory x = withHiddenFrames();
        due("the window's", x.entries(0), 3);
        for (int n : NOT_SHOWN) {
            due("n " + n, x.entries(n), HIDDEN);
        }
        x.go(-1);
        due("those later than the present step, too", x.entries(0), 3);
        due("a frame's", x.entries(1), 1);
        JointHistory y = withEntries(36);
        due("as many as there may be", y.entries(0), 36);
    }

    // Promises 15 to 17

    private static void presentAndLength() {
        sentence("The present step. How many steps are used");
        JointHistory x = withEntries(36);
        due("present", x.present(), 35);
        due("length", x.length(), 36);
        x.go(-35);
        due("present at the first", x.present(), 0);
        due("length as before", x.length(), 36);
        x.rewrite(0, BLANK, 0, true);
        due("present after a push", x.present(), 1);
        due("length after a push", x.length(), 2);
    }

    private static void countsOfOthers() {
        sentence("NONE for other k");
        JointHistory x = withFourFrames();
        int[] others = {-1, 6, 7, -7, LEAST, GREATEST};
        for (int k : others) {
            due("k " + k, x.count(k), NONE);
        }
        int[] counts = {5, 5, 6, 0, 0, 1};
        for (int k = SHOWN; k <= OPAQUES; k++) {
            due("k " + k, x.count(k), counts[k]);
        }
    }

    private static void loadingAndHistory() {
        callsUpToTheLast();
        stepsBeyondTheRoom();
        partsOfUrls();
        blankIsNotOfPageZero();
        opaqueOrigins();
        firstAnswers();
        otherFrameIsTheFirst();
        goneAndSoOn();
        presentStepAtFirst();
        presentEntry();
        shownOnes();
        loadingBlank();
        fourDetours();
        detoursInARing();
        fragmentsOfDetours();
        strictOrBelowASandbox();
        framesByLevel();
        secondFrameOnly();
        leastNumber();
        numbersWhileFull();
        oneFrameAfterTheOther();
        urlToWhichTheDetoursLed();
        firstEntry();
        pushingRemoves();
        hiddenEntriesAreRemoved();
        pushedStep();
        replacingKeepsItsStep();
        stepOfALoading();
        fullWhenPushing();
        fullWhenReplacing();
        fullWithFrames();
        documentsWhenPushing();
        documentsWhenReplacing();
        fullByWhatWouldGo();
        usedByHiddenOnes();
        fallingAfterReplacing();
        fallingAfterTakingOut();
        orderOfRefusals();
        refusedChangesNothing();
        fullChangesNothing();
    }

    private static void promises() {
        rangesOfContent();
        noFrame();
        rangesOfDetour();
        rangesOfFault();
        replacingOrPushing();
        withoutLoading();
        hashOfNavigate();
        rangesOfNavigate();
        ownUrl();
        forbiddenOnes();
        rangesOfRewrite();
        noSuchStep();
        overTheGaps();
        shownBeforeAndAfter();
        popAndHash();
        stateAloneIsAPop();
        takenOut();
        rangesOfDetach();
        urlOfHidden();
        stateOfHidden();
        stepOfHidden();
        originOfHidden();
        frameOfHidden();
        entriesOfHidden();
        presentAndLength();
        countsOfOthers();
    }

    public static void main(String[] args) {
        loadingAndHistory();
        promises();
        System.out.println(wrong == 0
                ? sentences + " sentences hold at their boundaries" : wrong + " answers are not as due");
        if (wrong != 0) {
            System.exit(1);
        }
    }
}
