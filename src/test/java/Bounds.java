import java.util.ArrayList;
import java.util.Arrays;
import java.util.HashMap;
import java.util.List;
import java.util.Map;

/** What the tests of boundary cases share: answers that are due by a sentence, and calls that must change nothing. */
final class Bounds {
    interface Start {
        OneSunbeam make();
    }

    interface Call {
        long on(OneSunbeam x);
    }

    interface View {
        void look(OneSunbeam x, List<Integer> seen);
    }

    static final int NONE = OneSunbeam.NONE;
    static final int[] DX = {1, 1, 0, -1, -1, -1, 0, 1};
    static final int[] DY = {0, 1, 1, 1, 0, -1, -1, -1};

    private static final View[] VIEWS = {
        Bounds::stands, Bounds::ways, Bounds::strengths, Bounds::readTape, Bounds::anotherTown,
        (x, seen) -> goneBack(x, 0, seen), (x, seen) -> goneBack(x, 1, seen),
        (x, seen) -> goneBack(x, 2, seen), (x, seen) -> goneBack(x, 3, seen),
        (x, seen) -> dayBy(x, 0, seen), (x, seen) -> dayBy(x, 1, seen), (x, seen) -> dayBy(x, 5, seen)};
    private static final Map<Start, List<List<Integer>>> UNTOUCHED = new HashMap<>();

    private static String sentence = "";
    private static int sentences = 0;
    private static int asked = 0;
    private static int wrong = 0;

    private Bounds() {
    }

    /** The answers that follow are due by this sentence of the document. */
    static void by(String words) {
        sentence = words;
        sentences++;
    }

    static void due(String call, long got, long want) {
        asked++;
        if (got != want) {
            wrong++;
            System.out.println("\"" + sentence + "\": " + call + " answered " + got + ", due is " + want);
        }
    }

    static void due(String call, boolean got, boolean want) {
        due(call, got ? 1 : 0, want ? 1 : 0);
    }

    static void due(String call, List<Integer> got, List<Integer> want) {
        asked++;
        if (!got.equals(want)) {
            wrong++;
            System.out.println("\"" + sentence + "\": " + call + " shows " + got + ", due is " + want);
        }
    }

    static void end() {
        System.out.println(sentences + " sentences, " + asked + " answers, " + wrong + " wrong");
        if (wrong != 0) System.exit(1);
    }

    /** A call that is refused, in a town that has something of all: it answers so, and nothing has happened. */
    static void refused(String name, long want, Call call) {
        refused(BUSY, name, want, call);
    }

    static void refused(Start start, String name, long want, Call call) {
        List<List<Integer>> untouched = UNTOUCHED.computeIfAbsent(start, Bounds::viewsOf);
        for (int i = 0; i < VIEWS.length; i++) {
            OneSunbeam x = start.make();
            due(name, call.on(x), want);
            List<Integer> seen = new ArrayList<>();
            VIEWS[i].look(x, seen);
            asked++;
            if (!seen.equals(untouched.get(i))) {
                wrong++;
                System.out.println("\"" + sentence + "\": " + name + " changed something (view " + i + ")");
            }
        }
    }

    private static List<List<Integer>> viewsOf(Start start) {
        List<List<Integer>> all = new ArrayList<>();
        for (View view : VIEWS) {
            List<Integer> seen = new ArrayList<>();
            view.look(start.make(), seen);
            all.add(seen);
        }
        return all;
    }

    static final Start NEW = OneSunbeam::new;
    static final Start BUSY = Bounds::busy;
    static final Start FULL = Bounds::fullOfMirrors;

    /** Eyes around the gap tell by which way light comes in; two laws, two images, a text on the tape. */
    static OneSunbeam busy() {
        OneSunbeam x = new OneSunbeam();
        x.town(5, 5, 2, 2, 10);
        for (int way = 0; way < 8; way++) x.eyes(2 + DX[way], 2 + DY[way], 0);
        for (int hour = 0; hour < 24; hour += 3) x.sun(3, hour, hour / 3, 2000 + hour);
        for (int month = 0; month < 12; month++) x.sun(month, (5 * month + 1) % 24, month % 8, 700 + month);
        x.rock(0, 0, 1, 0, true);
        x.mirror(3, 2, 2, 5, 100, 1, 4);
        x.mirror(2, 3, 6, 0, 0, 2, 0);
        x.mirror(4, 3, 7, 30, 20, 4, 4);
        x.yard(3, 3, 4, 4, 300, 150);
        x.yard(1, 1, 3, 3, 50, 20);
        x.falls(7);
        law(x, "turn 0 hour; turn 1 slant + 1 if a < b");
        law(x, "turn 2 day + 3 if sun < 8; turn 0 1");
        x.image(1);
        x.month(3);
        x.days(0, 1);
        x.image(3);
        x.sets(0, 0, 5);
        x.sets(1, 1, 40);
        x.sets(2, 2, 1);
        x.sets(1, 3, 77);
        x.eyes(4, 4, 9);
        feed(x, "turn 2 6");
        return x;
    }

    /** A town of 8 by 6, the gap at the left of row 1, sun 1000 by way 0 in hour 0 of month 0. */
    static OneSunbeam plain() {
        OneSunbeam x = new OneSunbeam();
        x.town(8, 6, 0, 1, 0);
        x.sun(0, 0, 0, 1000);
        return x;
    }

    /** A town of 24 mirrors, on which dust falls, with a law and a text on the tape. */
    static OneSunbeam fullOfMirrors() {
        OneSunbeam x = plain();
        for (int i = 0; i < 24; i++) x.mirror(i % 8, 2 + i / 8, i % 8, i, 0, 1, 0);
        x.yard(0, 1, 0, 1, 100, 0);
        x.falls(5);
        law(x, "turn 0 1");
        feed(x, "turn 0 2");
        return x;
    }

    /** The tape has this text alone. */
    static void feed(OneSunbeam x, String text) {
        x.end(0);
        for (int from = 0; from < text.length(); from += 20) {
            int[] five = new int[5];
            for (int i = 0; i < 20; i++) {
                int sign = from + i < text.length() ? text.charAt(from + i) & 255 : 0;
                five[i / 4] = five[i / 4] << 8 | sign;
            }
            x.feed(five[0], five[1], five[2], five[3], five[4]);
        }
        x.end(text.length());
    }

    static int law(OneSunbeam x, String text) {
        feed(x, text);
        return x.law();
    }

    /** All that the readers tell, but what stands for the laws and the tape. */
    static void stands(OneSunbeam x, List<Integer> seen) {
        standsInTown(x, seen);
        seen.add(x.count(8));
        seen.add(x.count(9));
    }

    static void standsInTown(OneSunbeam x, List<Integer> seen) {
        for (int what = 0; what < 8; what++) seen.add(x.count(what));
        // A large town is looked at in its corner: an object has 512 calls.
        int rows = Math.min(5, x.count(1));
        int columns = Math.min(5, x.count(0));
        for (int row = 0; row < rows; row++) {
            for (int column = 0; column < columns; column++) {
                for (int what = 0; what < 4; what++) seen.add(x.cell(column, row, what));
            }
        }
        int mirrors = x.count(2);
        for (int mirror = 0; mirror < mirrors; mirror++) {
            for (int what = 0; what < 10; what++) seen.add(x.mirrors(mirror, what));
        }
        int yards = x.count(3);
        for (int yard = 0; yard < yards; yard++) {
            for (int what = 0; what < 7; what++) seen.add(x.yards(yard, what));
        }
    }

    /** In each hour of the year the first cell that light comes into and has eyes. */
    static void ways(OneSunbeam x, List<Integer> seen) {
        for (int month = 0; month < 12; month++) {
            seen.add(x.month(month));
            for (int hour = 0; hour < 24; hour++) seen.add(x.light(hour, 6));
        }
    }

    static void strengths(OneSunbeam x, List<Integer> seen) {
        for (int month = 0; month < 12; month++) {
            seen.add(x.month(month));
            for (int hour = 0; hour < 24; hour++) seen.add(x.passes(hour, 2, 2));
        }
    }

    private static void readTape(OneSunbeam x, List<Integer> seen) {
        int made = x.law();
        seen.add(made);
        dayBy(x, made, seen);
    }

    private static void anotherTown(OneSunbeam x, List<Integer> seen) {
        seen.add(x.town(5, 4, 1, 2, 3) ? 1 : 0);
        stands(x, seen);
    }

    private static void goneBack(OneSunbeam x, int k, List<Integer> seen) {
        seen.add(x.back(k));
        stands(x, seen);
        for (int hour = 0; hour < 24; hour++) seen.add(x.light(hour, 2));
    }

    private static void dayBy(OneSunbeam x, int law, List<Integer> seen) {
        seen.add(x.days(law, 1));
        stands(x, seen);
    }

    static List<Integer> seen(View view, OneSunbeam x) {
        List<Integer> seen = new ArrayList<>();
        view.look(x, seen);
        return seen;
    }

    static List<Integer> list(Integer... numbers) {
        return Arrays.asList(numbers);
    }
}
