/** Each promise of the document by hand: ordinary calls, the edges that it names, and wrong inputs. */
public final class PromiseTest {
    private static final int BLANK = JointHistory.BLANK;
    private static final int NO_FRAME = JointHistory.NO_FRAME;
    private static final int BAD = JointHistory.BAD;
    private static final int HIDDEN = JointHistory.HIDDEN;
    private static final int FULL = JointHistory.FULL;
    private static final int FORBIDDEN = JointHistory.FORBIDDEN;
    private static final int NONE = JointHistory.NONE;
    private static final long NO_STATE = 1099511627776L;

    private static final int POPS = 3;
    private static final int HASHES = 4;
    private static final int OPAQUES = 5;

    private static int wrong = 0;
    private static String part = "";

    private static void due(String what, long got, long want) {
        if (got != want) {
            wrong++;
            System.out.println(part + ": " + what + " answered " + got + ", due is " + want);
        }
    }

    private static void due(String what, boolean got, boolean want) {
        due(what, got ? 1 : 0, want ? 1 : 0);
    }

    private static void counts(String when, JointHistory x, int... want) {
        for (int k = 0; k < want.length; k++) {
            due(when + ", count(" + k + ")", x.count(k), want[k]);
        }
    }

    /** The window shows 64 at the step 1, with the frames 1 (80) and 2 (88). */
    private static JointHistory withTwoFrames() {
        JointHistory x = new JointHistory();
        x.content(8, 80, 88, false);
        x.navigate(0, 64, false);
        return x;
    }

    private static JointHistory withEntries(int entries) {
        JointHistory x = new JointHistory();
        for (int i = 1; i < entries; i++) {
            due("rewrite that pushes entry " + i, x.rewrite(0, BLANK, i, true), i);
        }
        return x;
    }

    private static void newObject() {
        part = "promise 1";
        JointHistory x = new JointHistory();
        due("url", x.url(0), BLANK);
        due("state", x.state(0), 0);
        due("step", x.step(0), 0);
        due("origin", x.origin(0), 4);
        due("frame", x.frame(0, 0), NONE);
        due("entries", x.entries(0), 1);
        due("present", x.present(), 0);
        due("length", x.length(), 1);
        counts("at first", x, 1, 1, 1, 0, 0, 1);
        for (int page = 0; page < 32; page++) {
            JointHistory y = new JointHistory();
            due("first answer, step", y.navigate(0, page * 8, false), 1);
            due("first answer, origin", y.origin(0), page / 8);
            due("first answer, frame", y.frame(0, 0), NONE);
        }
        JointHistory other = new JointHistory();
        other.navigate(0, 8, false);
        due("objects are apart", x.url(0), BLANK);
    }

    private static void contentRanges() {
        part = "promise 2, ranges";
        JointHistory x = new JointHistory();
        due("page 0", x.content(0, -2, -2, false), true);
        due("page 31", x.content(31, 255, 255, true), true);
        due("page -1", x.content(-1, 0, 0, false), false);
        due("page 32", x.content(32, 0, 0, false), false);
        due("least page", x.content(Integer.MIN_VALUE, 0, 0, false), false);
        due("a -3", x.content(1, -3, 0, true), false);
        due("a 256", x.content(1, 256, 0, true), false);
        due("b -3", x.content(1, 0, -3, true), false);
        due("b 256", x.content(1, 0, 256, true), false);
        x.navigate(0, 8, false);
        due("a refused answer is not kept, frame", x.frame(0, 0), NONE);
        due("a refused answer is not kept, origin", x.origin(0), 0);
    }

    private static void contentFrames() {
        part = "promise 2, frames";
        JointHistory x = new JointHistory();
        x.content(1, 16, 24, false);
        x.content(2, 32, 40, false);
        x.content(3, NO_FRAME, 48, false);
        x.content(4, 56, 56, false);
        x.content(6, 56, 56, false);
        x.navigate(0, 8, false);
        due("first of the window", x.frame(0, 0), 1);
        due("its first only", x.frame(1, 0), 2);
        due("no second there", x.frame(1, 1), NONE);
        due("url in the frame", x.url(2), 32);
        due("none on the third level", x.frame(2, 0), NONE);
        due("second of the window", x.frame(0, 1), 3);
        due("a second frame only is the first", x.frame(3, 0), 4);
        due("its url", x.url(4), 48);
        due("none on the third level there", x.frame(4, 0), NONE);
        counts("five are shown", x, 5, 5, 6, 0, 0, 1);
        x.navigate(0, 24, false);
        due("a second frame only in the window", x.frame(0, 0), 5);
        due("and no second", x.frame(0, 1), NONE);
        due("the frame's url", x.url(5), 48);
        due("the frame's state", x.state(5), 0);
        due("the frame's step", x.step(5), 2);
        due("one frame in it", x.frame(5, 0), 6);
        x.content(1, NO_FRAME, NO_FRAME, false);
        x.navigate(0, 8, false);
        due("the newest answer counts", x.frame(0, 0), NONE);
    }

    private static void contentStrict() {
        part = "promise 2, strict";
        JointHistory x = new JointHistory();
        x.content(8, 72, BLANK, true);
        x.content(9, BLANK, NO_FRAME, false);
        x.navigate(0, 64, false);
        due("strict is opaque", x.origin(0), 5);
        due("a frame below is sandboxed", x.origin(1), 6);
        due("an empty frame two below", x.origin(2), 7);
        due("an empty frame below", x.origin(3), 8);
        x.navigate(1, 0, false);
        due("a frame stays sandboxed", x.origin(1), 9);
        x.navigate(0, 72, false);
        due("the window is free again", x.origin(0), 1);
        due("an empty frame takes the origin above", x.origin(x.frame(0, 0)), 1);
        x.content(8, 72, BLANK, false);
        x.content(9, BLANK, NO_FRAME, true);
        x.navigate(0, 64, false);
        due("not strict any more", x.origin(0), 1);
        due("a strict frame", x.origin(x.frame(0, 0)), 10);
        due("an empty frame in it", x.origin(x.frame(x.frame(0, 0), 0)), 11);
        due("an empty frame beside it", x.origin(x.frame(0, 1)), 1);
        due("opaque ones", x.count(OPAQUES), 8);
    }

    private static void detours() {
        part = "promise 3";
        JointHistory x = new JointHistory();
        due("page -1", x.detour(-1, 0), false);
        due("page 32", x.detour(32, 0), false);
        due("url -1", x.detour(0, -1), false);
        due("url 256", x.detour(0, 256), false);
        due("url 255", x.detour(31, 255), true);
        x.navigate(0, 1, false);
        due("a refused detour is not kept", x.url(0), 1);
        x.navigate(0, 248, false);
        due("a detour to itself, url", x.url(0), 255);
        due("a detour to itself, origin", x.origin(0), 5);
        for (int page = 10; page < 15; page++) {
            due("detour", x.detour(page, (page + 1) * 8), true);
        }
        x.content(15, 0, 0, true);
        x.navigate(0, 93, false);
        due("four detours, url", x.url(0), 125);
        due("four detours, origin", x.origin(0), 6);
        due("four detours, frame", x.frame(0, 0), 1);
        x.navigate(0, 85, false);
        due("five detours, url", x.url(0), 117);
        due("five detours, origin", x.origin(0), 9);
        due("five detours, frame", x.frame(0, 0), NONE);
        x.detour(12, 106);
        x.navigate(0, 95, false);
        due("the detour's own fragment", x.url(0), 122);
        x.content(20, 88, NO_FRAME, false);
        x.navigate(0, 160, false);
        due("a frame's detour", x.url(x.frame(0, 0)), 122);
        x.content(10, NO_FRAME, NO_FRAME, false);
        x.navigate(0, 80, false);
        due("content in place of a detour", x.url(0), 80);
        due("its origin", x.origin(0), 1);
    }

    private static void detourKeepsComparison() {
        part = "promises 3 and 5";
        JointHistory x = new JointHistory();
        x.detour(1, 16);
        due("first", x.navigate(0, 8, false), 1);
        due("the asked URL is not the entry's", x.navigate(0, 8, false), 2);
        due("the entry's own", x.navigate(0, 16, false), 2);
        due("no fragment move by a detour", x.navigate(0, 9, false), 3);
        due("url", x.url(0), 17);
        due("no hash", x.count(HASHES), 0);
        x.detour(2, 24);
        due("a fragment move asks no answer", x.navigate(0, 18, false), 4);
        due("url there", x.url(0), 18);
        due("hash", x.count(HASHES), 1);
    }

    private static void faults() {
        part = "promise 4";
        JointHistory x = new JointHistory();
        x.content(1, 8, 8, false);
        due("page -1", x.fault(-1), false);
        due("page 32", x.fault(32), false);
        due("page 31", x.fault(31), true);
        due("page 0", x.fault(0), true);
        due("page 1", x.fault(1), true);
        due("step", x.navigate(0, 9, false), 1);
        due("url", x.url(0), 9);
        due("origin", x.origin(0), 5);
        due("no frames", x.frame(0, 0), NONE);
        x.detour(2, 8);
        x.navigate(0, 18, false);
        due("a detour to a fault, url", x.url(0), 10);
        due("a detour to a fault, origin", x.origin(0), 6);
        x.content(3, 8, NO_FRAME, false);
        x.navigate(0, 24, false);
        due("a fault in a frame", x.origin(1), 7);
        due("no frame in it", x.frame(1, 0), NONE);
        x.navigate(1, BLANK, false);
        due("an empty page after it", x.origin(1), 0);
        x.content(1, NO_FRAME, NO_FRAME, false);
        x.navigate(0, 8, false);
        due("content in place of a fault", x.origin(0), 0);
    }

    private static void navigateRefused() {
        part = "promise 5, refused";
        JointHistory x = withTwoFrames();
        due("url 256", x.navigate(0, 256, false), BAD);
        due("url -2", x.navigate(0, -2, true), BAD);
        due("bad before hidden", x.navigate(9, 256, false), BAD);
        due("no navigable", x.navigate(3, 0, false), HIDDEN);
        due("n -1", x.navigate(-1, 0, false), HIDDEN);
        due("least n", x.navigate(Integer.MIN_VALUE, 0, false), HIDDEN);
        due("greatest n", x.navigate(Integer.MAX_VALUE, 0, true), HIDDEN);
        x.go(-1);
        due("a frame that is not shown", x.navigate(1, 0, false), HIDDEN);
        counts("nothing has changed", x, 1, 3, 4, 0, 0, 1);
        due("greatest url", x.navigate(0, 255, false), 1);
    }

    private static void navigatePushes() {
        part = "promise 5, pushing";
        JointHistory x = withTwoFrames();
        due("a frame's step", x.navigate(2, 0, false), 2);
        due("the frame's url", x.url(2), 0);
        due("the frame's origin", x.origin(2), 0);
        due("the frame's entries", x.entries(2), 2);
        due("the other's entries", x.entries(1), 1);
        x.go(-1);
        due("pushing removes what is later", x.navigate(1, 96, false), 2);
        due("also of others", x.entries(2), 1);
        due("and shows the earlier", x.url(2), 88);
        due("one step for all", x.length(), 3);
        x.go(-2);
        due("the window anew", x.navigate(0, 64, false), 1);
        due("the numbers were free", x.frame(0, 0), 1);
        counts("the old ones are gone", x, 3, 3, 4, 0, 0, 1);
        due("to the empty page", x.navigate(0, BLANK, false), 2);
        due("a new opaque origin", x.origin(0), 5);
    }

    private static void navigateReplaces() {
        part = "promise 5, replacing";
        JointHistory x = withTwoFrames();
        due("a frame pushes", x.navigate(1, 96, false), 2);
        x.content(12, 0, NO_FRAME, false);
        due("a frame replaces", x.navigate(1, 97, true), 2);
        due("a hash without loading", x.count(HASHES), 1);
        due("no frame without loading", x.frame(1, 0), NONE);
        due("the same URL replaces", x.navigate(1, 97, false), 2);
        due("no hash then", x.count(HASHES), 1);
        due("loading without a fragment", x.navigate(1, 96, true), 2);
        due("the least free number", x.frame(1, 0), 3);
        due("at the entry's step", x.step(3), 2);
        due("the window replaces", x.navigate(0, 64, true), 1);
        due("the present step falls", x.present(), 1);
        due("the old ones had their numbers yet, first", x.frame(0, 0), 4);
        due("the old ones had their numbers yet, second", x.frame(0, 1), 5);
        due("loaded at the replaced entry's step", x.step(4), 1);
        counts("the old ones are gone", x, 3, 3, 4, 0, 1, 1);
        x.rewrite(4, BLANK, 7, false);
        due("the same URL again", x.navigate(4, 80, false), 1);
        due("the state is 0 again", x.state(4), 0);
        JointHistory y = new JointHistory();
        due("blank on blank replaces", y.navigate(0, BLANK, false), 0);
        due("with a new origin", y.origin(0), 5);
        due("no entry more", y.entries(0), 1);
    }

    private static void replacedLaterStepStays() {
        part = "promise 5, replacing before later steps";
        JointHistory x = withTwoFrames();
        x.navigate(1, 96, false);
        x.navigate(0, 0, false);
        x.go(-1);
        due("the frame's step is gone", x.navigate(0, 8, true), 1);
        due("the used steps are 0, 1 and 3", x.length(), 3);
        due("on by one", x.go(1), 3);
        due("back by two", x.go(-2), 0);
        due("on by one again", x.go(1), 1);
        due("a push takes the next number", x.navigate(0, 16, false), 2);
    }

    private static void navigateFragments() {
        part = "promise 5, fragments";
        JointHistory x = new JointHistory();
        due("from the empty page it is loaded", x.navigate(0, 3, false), 1);
        due("origin", x.origin(0), 0);
        due("no hash", x.count(HASHES), 0);
        x.rewrite(0, BLANK, 6, false);
        due("a fragment pushes", x.navigate(0, 5, false), 2);
        due("hash", x.count(HASHES), 1);
        due("state", x.state(0), 0);
        due("back", x.go(-1), 1);
        due("the same document", x.count(POPS), 1);
        due("state before", x.state(0), 6);
        due("the same fragment replaces", x.navigate(0, 3, false), 1);
        due("state 0", x.state(0), 0);
        due("nothing removed", x.length(), 3);
        due("no fragment is a load", x.navigate(0, 0, false), 2);
        due("no hash for it", x.count(HASHES), 2);
        x.go(-1);
        due("another document", x.count(POPS), 1);
        due("another page is a load", x.navigate(0, 11, false), 2);
        x.go(-1);
        due("another document again", x.count(POPS), 1);
        due("hashes", x.count(HASHES), 2);
        due("replace with a fragment", x.navigate(0, 7, true), 1);
        due("counts a hash", x.count(HASHES), 3);
    }

    private static void sharedDocumentKeepsFrames() {
        part = "promise 5, documents that entries share";
        JointHistory x = withTwoFrames();
        due("a fragment", x.navigate(0, 65, false), 2);
        due("the same frames", x.frame(0, 0), 1);
        due("a frame goes on", x.navigate(1, 0, false), 3);
        due("back to the first entry", x.go(-2), 1);
        due("replaced there", x.navigate(0, 8, true), 1);
        counts("the frames are kept by the later entry", x, 1, 3, 6, 1, 2, 1);
        due("forward", x.go(1), 2);
        due("the frame's first entry has the step 1", x.step(1), 1);
        due("back again", x.go(-1), 1);
        due("a push takes the last holder away", x.rewrite(0, BLANK, 0, true), 2);
        counts("with all that it had", x, 1, 1, 3, 1, 2, 1);
    }

    private static void fullRoom() {
        part = "promise 5, full room";
        JointHistory x = withEntries(35);
        x.content(1, 16, 24, true);
        x.content(2, 32, NO_FRAME, false);
        x.content(3, 32, NO_FRAME, false);
        due("at 35 a push goes", x.navigate(0, 8, false), 35);
        counts("at most forty", x, 5, 5, 40, 0, 0, 6);
        due("a push at 40", x.navigate(0, 0, false), FULL);
        due("a replacing at 40", x.navigate(0, 0, true), FULL);
        due("the same URL at 40", x.navigate(0, 8, false), FULL);
        due("a fragment at 40", x.navigate(0, 9, false), FULL);
        due("bad before full", x.navigate(0, 256, false), BAD);
        due("hidden before full", x.navigate(5, 0, false), HIDDEN);
        due("back", x.go(-1), 34);
        due("replacing counts all", x.navigate(0, 8, true), FULL);
        counts("nothing has changed", x, 1, 5, 40, 0, 0, 6);
        due("pushing counts the earlier ones", x.navigate(0, 8, false), 35);
        counts("forty again", x, 5, 5, 40, 0, 0, 11);
        due("a frame out", x.detach(1), 35);
        due("another out", x.detach(3), 35);
        due("36 are full", x.navigate(0, 9, true), FULL);
        due("hashes of refused calls", x.count(HASHES), 0);
        JointHistory y = withEntries(35);
        due("at 35 a replacing goes", y.navigate(0, 8, true), 34);
        due("still 35", y.count(2), 35);
    }

    private static void rewriteRefused() {
        part = "promise 6, refused";
        JointHistory x = withTwoFrames();
        due("url 256", x.rewrite(0, 256, 0, true), BAD);
        due("url -2", x.rewrite(7, -2, 0, true), BAD);
        due("no navigable", x.rewrite(3, 64, 0, true), HIDDEN);
        due("another host", x.rewrite(0, 128, 0, true), FORBIDDEN);
        due("another host below", x.rewrite(0, 63, 0, false), FORBIDDEN);
        due("the last of the host", x.rewrite(0, 127, 0, false), 1);
        x.navigate(1, 200, false);
        due("host 3, another page", x.rewrite(1, 192, 0, true), FORBIDDEN);
        due("host 3, the same page", x.rewrite(1, 207, 0, true), 3);
        due("host 3, from elsewhere", x.rewrite(0, 192, 0, true), FORBIDDEN);
        x.navigate(2, BLANK, false);
        due("from the empty page to page 0", x.rewrite(2, 0, 0, true), FORBIDDEN);
        due("the empty page's own", x.rewrite(2, BLANK, 9, true), 5);
        due("url", x.url(2), BLANK);
        due("no hash", x.count(HASHES), 0);
        JointHistory y = withEntries(36);
        due("forbidden before full", y.rewrite(0, 0, 0, true), FORBIDDEN);
        due("push when full", y.rewrite(0, BLANK, 77, true), FULL);
        due("replace when full", y.rewrite(0, BLANK, 77, false), FULL);
        due("state is as before", y.state(0), 35);
        due("back", y.go(-1), 34);
        due("replace counts all", y.rewrite(0, BLANK, 77, false), FULL);
        due("push counts the earlier ones", y.rewrite(0, BLANK, 77, true), 35);
        due("state", y.state(0), 77);
    }

    private static void rewriteOrdinary() {
        part = "promise 6";
        JointHistory x = withTwoFrames();
        due("push", x.rewrite(0, 72, -5, true), 2);
        due("url", x.url(0), 72);
        due("state", x.state(0), -5);
        due("the document stays", x.frame(0, 0), 1);
        due("the origin stays", x.origin(0), 1);
        due("entries", x.entries(0), 3);
        due("replace", x.rewrite(0, BLANK, 8, false), 2);
        due("its own url", x.url(0), 72);
        due("state then", x.state(0), 8);
        due("no hash", x.count(HASHES), 0);
        due("a frame replaces its earlier entry", x.rewrite(2, 89, 4, false), 2);
        due("which keeps its step", x.step(2), 1);
        due("back", x.go(-1), 1);
        due("a frame pushes", x.rewrite(1, 81, 3, true), 2);
        due("the later one is removed", x.entries(0), 2);
        due("url of the window", x.url(0), 64);
        due("state of the frame", x.state(1), 3);
    }

    private static void goRefused() {
        part = "promise 7, refused";
        JointHistory x = withTwoFrames();
        x.navigate(0, 0, false);
        due("by none", x.go(0), 2);
        due("too far on", x.go(1), NONE);
        due("too far back", x.go(-3), NONE);
        due("least", x.go(Integer.MIN_VALUE), NONE);
        due("greatest", x.go(Integer.MAX_VALUE), NONE);
        due("nothing has changed", x.present(), 2);
        due("to the first", x.go(-2), 0);
        due("greatest from the first", x.go(Integer.MAX_VALUE), NONE);
        due("below the first", x.go(-1), NONE);
        due("to the last", x.go(2), 2);
        due("no pops", x.count(POPS), 0);
    }

    private static void goCounts() {
        part = "promise 7, pops and hashes";
        JointHistory x = withTwoFrames();
        x.rewrite(1, 81, 1, true);
        x.rewrite(1, 81, 2, true);
        x.rewrite(2, 96, 3, true);
        x.navigate(0, 2, false);
        due("from where the frames are hidden", x.go(-1), 4);
        due("no pop", x.count(POPS), 0);
        due("one frame's pop", x.go(-1), 3);
        due("pop", x.count(POPS), 1);
        due("88 and 96 have the same fragment", x.count(HASHES), 0);
        due("the same URL", x.go(-1), 2);
        due("pop for it", x.count(POPS), 2);
        due("no hash for it", x.count(HASHES), 0);
        due("to the first", x.go(-1), 1);
        due("pop there", x.count(POPS), 3);
        due("hash there", x.count(HASHES), 1);
        due("two frames at once", x.go(3), 4);
        due("two pops", x.count(POPS), 5);
        due("one hash", x.count(HASHES), 2);
        due("to where the frames are hidden", x.go(1), 5);
        due("no pop then", x.count(POPS), 5);
        due("another document in the window", x.go(-5), 0);
        due("no hash by 2 and BLANK", x.count(HASHES), 2);
        JointHistory y = new JointHistory();
        y.rewrite(0, BLANK, 1, true);
        due("empty pages", y.go(-1), 0);
        due("a pop for them", y.count(POPS), 1);
        due("no hash for them", y.count(HASHES), 0);
    }

    private static void detaching() {
        part = "promise 8";
        JointHistory x = new JointHistory();
        x.content(8, 80, 88, false);
        x.content(10, 96, NO_FRAME, false);
        x.navigate(0, 64, false);
        due("the window", x.detach(0), BAD);
        due("n -1", x.detach(-1), HIDDEN);
        due("n 4", x.detach(4), HIDDEN);
        due("a frame in a frame goes on", x.navigate(2, 97, false), 2);
        due("and is taken out", x.detach(2), 1);
        due("its place is empty", x.frame(1, 0), NONE);
        due("its number is free", x.url(2), HIDDEN);
        due("the second", x.detach(3), 1);
        due("the first stays", x.frame(0, 0), 1);
        due("no second", x.frame(0, 1), NONE);
        due("twice", x.detach(3), HIDDEN);
        due("one that holds a frame", x.navigate(1, 80, true), 1);
        due("its new frame", x.frame(1, 0), 2);
        due("is taken out", x.detach(1), 1);
        counts("with its frame", x, 1, 1, 2, 0, 1, 1);
        due("back", x.go(-1), 0);
        JointHistory y = withTwoFrames();
        y.navigate(0, 65, false);
        y.navigate(1, 0, false);
        y.navigate(0, 8, false);
        due("a frame that is not shown", y.detach(1), HIDDEN);
        due("to where it is", y.go(-1), 3);
        due("out of the document of two entries", y.detach(1), 2);
        due("the other is the first", y.frame(0, 0), 2);
        due("later steps stay", y.length(), 4);
        due("back", y.go(-1), 1);
        due("it is gone there, too", y.frame(0, 0), 2);
        due("on over the gap", y.go(2), 4);
    }

    private static void observers() {
        part = "promises 9 to 14";
        JointHistory x = withTwoFrames();
        x.rewrite(1, 81, Integer.MIN_VALUE, true);
        due("url", x.url(1), 81);
        due("state", x.state(1), Integer.MIN_VALUE);
        due("step", x.step(1), 2);
        due("step of another", x.step(2), 1);
        due("origin", x.origin(1), 1);
        due("frame", x.frame(0, 1), 2);
        due("frame of a frame", x.frame(1, 0), NONE);
        due("entries", x.entries(1), 2);
        int[] places = {-1, 2, Integer.MIN_VALUE, Integer.MAX_VALUE};
        for (int k : places) {
            due("frame place " + k, x.frame(0, k), NONE);
        }
        x.rewrite(1, 81, Integer.MAX_VALUE, false);
        due("greatest state", x.state(1), Integer.MAX_VALUE);
        x.go(-2);
        int[] hidden = {1, 2, 3, -1, 40, 41, 1000, Integer.MIN_VALUE, Integer.MAX_VALUE};
        for (int n : hidden) {
            due("hidden url " + n, x.url(n), HIDDEN);
            due("hidden state " + n, x.state(n), NO_STATE);
            due("hidden step " + n, x.step(n), HIDDEN);
            due("hidden origin " + n, x.origin(n), HIDDEN);
            due("hidden frame " + n, x.frame(n, 0), HIDDEN);
            due("hidden before none " + n, x.frame(n, 5), HIDDEN);
            due("hidden entries " + n, x.entries(n), HIDDEN);
        }
    }

    private static void sums() {
        part = "promises 15 to 17";
        JointHistory x = withTwoFrames();
        due("present", x.present(), 1);
        due("length", x.length(), 2);
        counts("with frames", x, 3, 3, 4, 0, 0, 1);
        x.navigate(1, 83, false);
        due("present after a push", x.present(), 2);
        due("length after a push", x.length(), 3);
        x.go(-2);
        due("present at first", x.present(), 0);
        due("steps of hidden ones are used", x.length(), 3);
        counts("with hidden frames", x, 1, 3, 5, 0, 1, 1);
        int[] others = {-1, 6, Integer.MIN_VALUE, Integer.MAX_VALUE};
        for (int k : others) {
            due("count " + k, x.count(k), NONE);
        }
        x.navigate(0, BLANK, true);
        due("present after replacing", x.present(), 0);
        counts("replacing removes nothing later", x, 1, 3, 5, 0, 1, 2);
        x.navigate(0, 0, false);
        due("length after removal", x.length(), 2);
        counts("after removal", x, 1, 1, 2, 0, 1, 2);
    }

    private static void framesInFrames() {
        part = "promises 9 and 13, frames in frames";
        JointHistory x = new JointHistory();
        x.content(8, 80, 88, false);
        x.content(10, 96, NO_FRAME, false);
        x.navigate(0, 64, false);
        due("the frame in the frame", x.frame(1, 0), 2);
        due("is shown", x.url(2), 96);
        x.navigate(0, 0, false);
        due("not with another window document", x.url(2), HIDDEN);
        due("the only one shown", x.count(0), 1);
        x.go(-1);
        x.navigate(1, 104, false);
        due("not with another frame document", x.url(2), HIDDEN);
        due("those shown", x.count(0), 3);
        x.go(-1);
        due("shown again", x.url(2), 96);
    }

    private static void nothingIsLeftOver() {
        part = "promise 13, after frames that are gone";
        JointHistory x = withTwoFrames();
        x.go(-1);
        x.navigate(0, 0, false);
        due("no first", x.frame(0, 0), NONE);
        due("no second", x.frame(0, 1), NONE);
        x.go(-1);
        x.navigate(0, 64, false);
        due("two again", x.frame(0, 1), 2);
        x.content(8, 80, NO_FRAME, false);
        x.go(-1);
        x.navigate(0, 64, false);
        due("one frame", x.frame(0, 0), 1);
        due("and no second one", x.frame(0, 1), NONE);
    }

    private static void usedStepsInAnyOrder() {
        part = "promises 7 and 16";
        JointHistory x = withTwoFrames();
        x.navigate(2, 96, false);
        x.navigate(1, 96, false);
        due("the later frame's step", x.detach(1), 2);
        due("the window goes on", x.navigate(0, 0, false), 3);
        due("length", x.length(), 4);
        due("back to the frame's step", x.go(-1), 2);
        due("back to the window's", x.go(-1), 1);
        due("back to the first", x.go(-1), 0);
        due("on to the last", x.go(3), 3);
        JointHistory y = new JointHistory();
        y.content(8, 80, 88, false);
        due("replaced at the step 0", y.navigate(0, 64, true), 0);
        due("its frames have it, too", y.step(2), 0);
        due("it is used once", y.length(), 1);
        due("no step beside it", y.go(1), NONE);
    }

    public static void main(String[] args) {
        newObject();
        contentRanges();
        contentFrames();
        contentStrict();
        detours();
        detourKeepsComparison();
        faults();
        navigateRefused();
        navigatePushes();
        navigateReplaces();
        replacedLaterStepStays();
        navigateFragments();
        sharedDocumentKeepsFrames();
        fullRoom();
        rewriteRefused();
        rewriteOrdinary();
        goRefused();
        goCounts();
        detaching();
        observers();
        sums();
        framesInFrames();
        nothingIsLeftOver();
        usedStepsInAnyOrder();
        System.out.println(wrong == 0 ? "all promises are kept" : wrong + " answers are not as due");
        if (wrong != 0) {
            System.exit(1);
        }
    }
}
