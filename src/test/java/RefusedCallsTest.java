import java.util.ArrayList;
import java.util.List;
import java.util.NoSuchElementException;
import java.util.function.Consumer;
import java.util.function.IntConsumer;

/**
 * A refused call changes nothing but what the document says. Two cities are made alike; one of them is asked what it
 * must refuse, and then everything that can be asked of both, up to a DAY's CLOSE, is compared.
 */
public final class RefusedCallsTest {
    private static final int NONE = PaperBoys.NONE;
    private static final int[] FAR = {Integer.MIN_VALUE, -2, 100002, Integer.MAX_VALUE};

    private RefusedCallsTest() {
    }

    public static void main(String[] args) {
        refusedOfTheTape();
        refusedOfTheCity();
        refusedBundles();
        refusedCounts();
        refusedTold();
        thrown();
        askedForNothing();
        refusedThatEmptyTheTape();
        faultsOfTexts();
        refusedWhenFull();
        refusedOn400();
        Check.hadAll(2, 6);
        Check.hadAll(9, 9);
        Check.hadAll(11, 11);
        Check.hadAll(13, 14);
        Check.hadAll(16, 17);
        Check.hadAll(19, 22);
        Check.end();
    }

    /** Three boys, two closed days and bundles on a third one, a tape with three bytes, and something of each matter. */
    private static PaperBoys rich() {
        PaperBoys x = new PaperBoys();
        Check.same("boy", x.boy(10, true, 1, 20), 0);
        Check.same("boy", x.boy(14, false, -1, 30), 1);
        Check.same("boy", x.boy(18, false, 399, 30), 2);
        Check.yes("owner", x.owner(2, 1));
        Check.yes("weather", Check.tape(x, 1, 255, 2, 0).weather());
        Check.yes("wet", x.table(0, 1, 150));
        Check.yes("loud", x.table(1, 4, 50));
        Check.yes("headline", x.headline(1, 1, 4));
        Check.yes("want", x.want(2, 1, 40));
        Check.yes("want", x.want(3, 0, 10));
        Check.yes("minutes", x.minutes(0, 5, 3));
        Check.same("terms", Check.terms(x, 0, "price 50 if badge;back 50;owe 500;cry 2 if owner;"), 4);
        Check.same("terms", Check.terms(x, 2, "price 70;back 30;"), 2);
        for (int k = 0; k < 6; k++) {
            Check.same("bundle", x.bundle(k % 3, 1 - k / 5, 2 + k / 5, 30 + k, 5 + k % 2), k);
            if (k == 2 || k == 4) {
                x.close();
            }
        }
        Check.same("counted", x.counted(1, 2, 0, 9), 0);
        Check.same("counted", x.counted(1, 2, 1, 5000), 1);
        Check.same("best", Check.tape(x, 1, 2, 3, 4, 5, 6, 7, 8, 9, 10).best(2, 1, 60, 2, 10), 40);
        Check.yes("tried", Check.tried(x, "price 20;") > NONE);
        Check.same("parted", Check.tape(x, 1, 9, 0, 6, 5, 5, 5, 6).parted(2, 1, 7), 9);
        Check.same("truck", Check.truck(x, 3, 99, 5, 99), 13);
        Check.same("strike", Check.tape(x, 5, 6).strike(0, 1, 0, 0, 0), 0);
        Check.same("a FAULT", Check.terms(x, 2, "price 2000;"), -7);
        Check.tape(x, 1, 3, 255);
        Check.same("told", x.told(3, 2), 50);
        return x;
    }

    /** Everything that can be asked of a city, at last also its tape, its MINUTES and a CLOSE. */
    private static List<Long> everything(PaperBoys x, boolean whyToo) {
        List<Long> all = new ArrayList<>();
        if (whyToo) {
            all.add((long) x.why());
        }
        each(6, what -> all.add((long) x.count(what)));
        each(6, day -> all.add((long) x.sky(day)));
        each(4, weather -> all.add((long) x.asked(2, 1, weather, 0)));
        each(6, h -> all.add((long) x.asked(3, 0, 0, h)));
        all.add((long) x.fault());
        all.add(x.expected());
        all.add((long) x.triedEaten());
        each(9, k -> all.add((long) x.partedAt(k)));
        each(9, sum -> all.add((long) x.peace(sum)));
        each(10, k -> all.add((long) x.truckAt(k)));
        each(2, what -> all.add((long) x.struck(what)));
        each(5, t -> all.add((long) x.falseCounts(t)));
        each(5, t -> all.add((long) x.shortOf(t)));
        bundlesAndCoins(x, all);
        for (int k = 0; k < x.count(2) && k < 6; k++) {
            int number = k;
            each(6, what -> {
                all.add((long) x.told(number, what));
                all.add((long) x.why());
            });
        }
        all.add(x.weather() ? 1L : 0L);
        each(6, day -> all.add((long) x.sky(day)));
        all.add((long) Check.truck(x, 1, 999, 2, 999, 3, 999, 4, 999, 5, 999, 6, 999, 7, 999, 8, 999, 9, 999));
        each(9, k -> all.add((long) x.truckAt(k)));
        all.add((long) x.close());
        bundlesAndCoins(x, all);
        return all;
    }

    private static void bundlesAndCoins(PaperBoys x, List<Long> all) {
        for (int b = 0; b < x.count(1) && b < 4; b++) {
            all.add((long) x.coin(b));
        }
        for (int k = 0; k < x.count(2) && k < 6; k++) {
            int number = k;
            each(5, what -> all.add((long) x.of(number, what)));
        }
    }

    private static void each(int n, IntConsumer ask) {
        for (int i = 0; i < n; i++) {
            ask.accept(i);
        }
    }

    private static void alike(PaperBoys asked, PaperBoys twin, boolean whyToo) {
        List<Long> got = everything(asked, whyToo);
        List<Long> due = everything(twin, whyToo);
        Check.same("how much there is", got.size(), due.size());
        for (int i = 0; i < Math.min(got.size(), due.size()); i++) {
            Check.same("behind it, answer " + i, got.get(i), due.get(i));
        }
    }

    private static void unchanged(Consumer<PaperBoys> refused) {
        PaperBoys asked = rich();
        refused.accept(asked);
        alike(asked, rich(), true);
    }

    private static void refusedOfTheTape() {
        Check.promise(3, "a refused end() leaves the tape as it was");
        unchanged(x -> Check.no("end", x.end(-1)));
        unchanged(x -> Check.no("end", x.end(4)));
        for (int n : FAR) {
            unchanged(x -> Check.no("end", x.end(n)));
        }
        Check.promise(2, "a refused feed() leaves the tape as it was");
        PaperBoys full = rich();
        PaperBoys twin = rich();
        for (int i = 1; i <= 20; i++) {
            Check.same("feed", full.feed(0, 0, 0, 0, 0), 3 + 20 * i);
            Check.same("feed", twin.feed(0, 0, 0, 0, 0), 3 + 20 * i);
        }
        Check.same("feed", full.feed(-1, -1, -1, -1, -1), NONE);
        Check.same("bytes", full.count(5), 403);
        Check.yes("end", full.end(400));
        Check.yes("end", twin.end(400));
        alike(full, twin, true);
    }

    private static void refusedOfTheCity() {
        for (int n : FAR) {
            Check.promise(4, "a refused boy() changes nothing");
            unchanged(x -> Check.same("boy", x.boy(n, true, 0, 0), NONE));
            unchanged(x -> Check.same("boy", x.boy(10, true, n, 0), NONE));
            unchanged(x -> Check.same("boy", x.boy(10, true, 0, n), NONE));
            Check.promise(5, "a refused badge() changes nothing");
            unchanged(x -> Check.no("badge", x.badge(n, 5)));
            unchanged(x -> Check.no("badge", x.badge(0, n)));
            Check.promise(6, "a refused owner() changes nothing");
            unchanged(x -> Check.no("owner", x.owner(n, 0)));
            unchanged(x -> Check.no("owner", x.owner(2, n)));
            Check.promise(9, "a refused headline() changes nothing");
            unchanged(x -> Check.no("headline", x.headline(n, 2, 4)));
            unchanged(x -> Check.no("headline", x.headline(0, n, 4)));
            unchanged(x -> Check.no("headline", x.headline(0, 2, n)));
            Check.promise(10, "a refused table() changes nothing");
            unchanged(x -> Check.no("table", x.table(n, 0, 0)));
            unchanged(x -> Check.no("table", x.table(0, n, 0)));
            unchanged(x -> Check.no("table", x.table(1, n, 0)));
            unchanged(x -> Check.no("table", x.table(0, 0, n)));
            Check.promise(11, "a refused want() changes nothing");
            unchanged(x -> Check.no("want", x.want(n, 1, 0)));
            unchanged(x -> Check.no("want", x.want(2, n, 0)));
            unchanged(x -> Check.no("want", x.want(2, 1, n)));
            Check.promise(13, "a refused minutes() changes nothing");
            unchanged(x -> Check.no("minutes", x.minutes(n, 1, 1)));
            unchanged(x -> Check.no("minutes", x.minutes(1, n, 1)));
            unchanged(x -> Check.no("minutes", x.minutes(0, 1, n)));
        }
        unchanged(x -> Check.no("minutes", x.minutes(4, 4, 1)));
        Check.promise(9, "a HEADLINE of a closed DAY changes nothing");
        unchanged(x -> Check.no("headline", x.headline(1, 0, 4)));
        unchanged(x -> Check.no("headline", x.headline(1, 1, 0)));
    }

    private static void refusedBundles() {
        Check.promise(16, "a refused bundle() changes nothing");
        for (int n : FAR) {
            unchanged(x -> Check.same("bundle", x.bundle(n, 0, 1, 1, 5), NONE));
            unchanged(x -> Check.same("bundle", x.bundle(0, n, 1, 1, 5), NONE));
            unchanged(x -> Check.same("bundle", x.bundle(0, 0, n, 1, 5), NONE));
            unchanged(x -> Check.same("bundle", x.bundle(0, 0, 1, n, 5), NONE));
            unchanged(x -> Check.same("bundle", x.bundle(0, 0, 1, 1, n), NONE));
        }
        unchanged(x -> Check.same("too many", x.bundle(0, 0, 1, 201, 5), NONE));
        unchanged(x -> Check.same("too much owed", x.bundle(1, 0, 1, 200, 5), NONE));
    }

    private static void refusedCounts() {
        Check.promise(22, "a refused counted() changes nothing");
        for (int n : FAR) {
            unchanged(x -> Check.same("counted", x.counted(n, 2, 0, 1), NONE));
            unchanged(x -> Check.same("counted", x.counted(1, n, 0, 1), NONE));
            unchanged(x -> Check.same("counted", x.counted(1, 2, n, 1), NONE));
            unchanged(x -> Check.same("counted", x.counted(1, 2, 0, n), NONE));
        }
        unchanged(x -> Check.same("TODAY", x.counted(1, 2, 2, 1), NONE));
    }

    private static void refusedTold() {
        Check.promise(17, "a told() that answers NONE changes nothing but why()");
        for (int n : FAR) {
            for (int[] kAndWhat : new int[][] {{n, 0}, {0, n}, {n, n}}) {
                PaperBoys x = rich();
                Check.same("told", x.told(kAndWhat[0], kAndWhat[1]), NONE);
                Check.same("no LINE told that", x.why(), NONE);
                alike(x, rich(), false);
            }
        }
    }

    private static void thrown() {
        for (int n : FAR) {
            Check.promise(20, "A call that throws changes nothing");
            unchanged(x -> Check.noOf(x, n, 0));
            unchanged(x -> Check.noOf(x, 0, n));
            unchanged(x -> Check.noOf(x, n, n));
            Check.promise(21, "A call that throws changes nothing");
            unchanged(x -> Check.noCoin(x, n));
        }
        Check.promise(20, "A call that throws throws that alone");
        try {
            rich().of(6, 0);
            Check.yes("thrown", false);
        } catch (NoSuchElementException e) {
            Check.yes("a NoSuchElementException itself", e.getClass() == NoSuchElementException.class);
        }
        Check.promise(21, "A call that throws throws that alone");
        try {
            rich().coin(3);
            Check.yes("thrown", false);
        } catch (NoSuchElementException e) {
            Check.yes("a NoSuchElementException itself", e.getClass() == NoSuchElementException.class);
        }
    }

    /** Calls that only tell something change nothing, as told or not. */
    private static void askedForNothing() {
        int[] numbers = {Integer.MIN_VALUE, -1, 0, 1, 5, 400, Integer.MAX_VALUE};
        for (int n : numbers) {
            Check.promise(36, "asking changes nothing");
            unchanged(x -> x.count(n));
            Check.promise(8, "asking changes nothing");
            unchanged(x -> x.sky(n));
            Check.promise(12, "asking changes nothing");
            unchanged(x -> x.asked(n, n, n, n));
            Check.promise(23, "asking changes nothing");
            unchanged(x -> x.falseCounts(n));
            Check.promise(24, "asking changes nothing");
            unchanged(x -> x.shortOf(n));
            Check.promise(30, "asking changes nothing");
            unchanged(x -> x.partedAt(n));
            Check.promise(31, "asking changes nothing");
            unchanged(x -> x.peace(n));
            Check.promise(33, "asking changes nothing");
            unchanged(x -> x.truckAt(n));
            Check.promise(35, "asking changes nothing");
            unchanged(x -> x.struck(n));
        }
        Check.promise(15, "asking changes nothing");
        unchanged(PaperBoys::fault);
        Check.promise(18, "asking changes nothing");
        unchanged(PaperBoys::why);
        Check.promise(26, "asking changes nothing");
        unchanged(PaperBoys::expected);
        Check.promise(28, "asking changes nothing");
        unchanged(PaperBoys::triedEaten);
        Check.promise(20, "asking changes nothing");
        unchanged(x -> x.of(5, 4));
        Check.promise(21, "asking changes nothing");
        unchanged(x -> x.coin(2));
    }

    /** The call is made with a tape of its own, and leaves it empty. */
    private static void emptied(int[] row, Consumer<PaperBoys> refused) {
        PaperBoys asked = rich();
        Check.tape(asked, row);
        refused.accept(asked);
        Check.same("bytes", asked.count(5), 0);
        PaperBoys twin = rich();
        Check.yes("end", twin.end(0));
        alike(asked, twin, true);
    }

    private static void refusedThatEmptyTheTape() {
        Check.promise(7, "a refused weather() changes nothing but the tape");
        emptied(new int[] {}, x -> Check.no("weather", x.weather()));
        emptied(new int[] {3, 3, 3, 4}, x -> Check.no("weather", x.weather()));
        emptied(new int[401], x -> Check.no("weather", x.weather()));
        int[] text = {'s', 'e', 'l', 'l', ';'};
        Check.promise(14, "terms() that tells -1000 changes nothing but the tape");
        for (int from : new int[] {Integer.MIN_VALUE, -1, 0, 1, 400, Integer.MAX_VALUE}) {
            emptied(text, x -> Check.same("terms", x.terms(from), -1000));
        }
        int[] shares = {1, 1, 1, 1, 1, 1, 1, 1, 1, 1};
        Check.promise(25, "a best() that answers NONE changes nothing but the tape");
        for (int n : FAR) {
            emptied(shares, x -> Check.same("best", x.best(n, 1, 60, 1, 0), NONE));
            emptied(shares, x -> Check.same("best", x.best(2, n, 60, 1, 0), NONE));
            emptied(shares, x -> Check.same("best", x.best(2, 1, n, 1, 0), NONE));
            emptied(shares, x -> Check.same("best", x.best(2, 1, 60, n, 0), NONE));
            emptied(shares, x -> Check.same("best", x.best(2, 1, 60, 1, n), NONE));
        }
        emptied(new int[] {1, 1, 1, 1, 1, 1, 1, 1, 1, 21}, x -> Check.same("best", x.best(2, 1, 60, 1, 0), NONE));
        emptied(new int[9], x -> Check.same("best", x.best(2, 1, 60, 1, 0), NONE));
        partingsThatAreRefused();
        Check.promise(32, "a truck() that answers NONE changes nothing but the tape");
        emptied(new int[20], x -> Check.same("truck", x.truck(), NONE));
        emptied(new int[19], x -> Check.same("truck", x.truck(), NONE));
        Check.promise(34, "a strike() that answers NONE changes nothing but the tape");
        emptied(new int[] {5, 6, 7, 8}, x -> Check.same("strike", x.strike(9, 1, 1, 9, 1), NONE));
        emptied(new int[] {5, 5, 5}, x -> Check.same("strike", x.strike(9, 1, 1, 9, 1), NONE));
        emptied(new int[] {}, x -> Check.same("strike", x.strike(9, 1, 1, 9, 1), NONE));
        for (int n : FAR) {
            emptied(new int[] {5, 5}, x -> Check.same("strike", x.strike(n, 1, 1, 1, 1), NONE));
            emptied(new int[] {5, 5}, x -> Check.same("strike", x.strike(1, n, 1, 1, 1), NONE));
            emptied(new int[] {5, 5}, x -> Check.same("strike", x.strike(1, 1, n, 1, 1), NONE));
            emptied(new int[] {5, 5}, x -> Check.same("strike", x.strike(1, 1, 1, n, 1), NONE));
            emptied(new int[] {5, 5}, x -> Check.same("strike", x.strike(1, 1, 1, 1, n), NONE));
        }
    }

    private static void partingsThatAreRefused() {
        Check.promise(29, "a parted() that answers NONE changes nothing but the tape");
        int[] row = {9, 1, 1, 9, 1, 1, 1, 1};
        for (int n : FAR) {
            emptied(row, x -> Check.same("parted", x.parted(n, 0, 1), NONE));
            emptied(row, x -> Check.same("parted", x.parted(2, n, 1), NONE));
            emptied(row, x -> Check.same("parted", x.parted(2, 1, n), NONE));
        }
        emptied(new int[] {9, 1, 1, 9, 1, 1, 1}, x -> Check.same("parted", x.parted(2, 0, 1), NONE));
        emptied(new int[9], x -> Check.same("parted", x.parted(2, 1, 1), NONE));
    }

    /** Of a text with a FAULT only fault() tells; here it is of the kind that was told before. */
    private static void faultsOfTexts() {
        int[] wrong = {'c', 'r', 'y', ' ', '1', ';', 'c', 'r', 'y', ' ', '1', '0', '0', '1', ';'};
        Check.promise(14, "a FAULT: none are told");
        emptied(wrong, x -> Check.same("terms", x.terms(2), -11));
        Check.promise(27, "a FAULT: nothing is TRIED");
        emptied(wrong, x -> Check.same("tried", x.tried(), -1000000010));
    }

    private static void refusedWhenFull() {
        Check.promise(4, "there are 40: one more changes nothing");
        PaperBoys[] two = {rich(), rich()};
        for (PaperBoys x : two) {
            for (int b = 3; b < 40; b++) {
                Check.same("boy", x.boy(10, true, -1, 1), b);
            }
        }
        Check.same("one more", two[0].boy(10, true, -1, 1), NONE);
        alike(two[0], two[1], true);
        Check.promise(22, "there are 60: one more changes nothing");
        PaperBoys[] other = {rich(), rich()};
        for (PaperBoys x : other) {
            for (int i = 2; i < 60; i++) {
                Check.same("counted", x.counted(1, 2, 0, i), i);
            }
        }
        Check.same("one more", other[0].counted(1, 2, 0, 1), NONE);
        alike(other[0], other[1], true);
        Check.promise(14, "there are 10: one more changes nothing");
        PaperBoys[] texts = {rich(), rich()};
        for (PaperBoys x : texts) {
            for (int i = 2; i < 10; i++) {
                Check.same("terms", Check.terms(x, 3, "sell not;"), 1);
            }
        }
        Check.same("one more", Check.terms(texts[0], 2, "sell not;"), -1000);
        alike(texts[0], texts[1], true);
        Check.promise(16, "there are 200: one more changes nothing");
        PaperBoys[] many = {rich(), rich()};
        for (PaperBoys x : many) {
            Check.same("terms", Check.terms(x, 2, "price 0;owe 1000;"), 2);
            for (int k = 6; k < 200; k++) {
                Check.same("bundle", x.bundle(0, 0, 2, 1, 5), k);
            }
        }
        Check.same("one more", many[0].bundle(0, 1, 2, 1, 4), NONE);
        Check.same("count", many[0].count(2), many[1].count(2));
        for (int b = 0; b < 3; b++) {
            Check.same("COIN", many[0].coin(b), many[1].coin(b));
        }
        Check.same("close", many[0].close(), many[1].close());
    }

    private static void refusedOn400() {
        PaperBoys[] two = {new PaperBoys(), new PaperBoys()};
        for (PaperBoys x : two) {
            Check.same("boy", x.boy(10, true, 1, 20), 0);
            Check.yes("want", x.want(2, 1, 40));
            Check.same("bundle", x.bundle(0, 1, 2, 50, 5), 0);
            Check.same("close", x.close(), 40);
            Check.closeDays(x, 399);
        }
        Check.promise(19, "TODAY is 400: close() changes nothing");
        Check.same("close", two[0].close(), NONE);
        Check.promise(16, "TODAY is 400: bundle() changes nothing");
        Check.same("bundle", two[0].bundle(0, 1, 2, 1, 5), NONE);
        for (int what = 0; what < 6; what++) {
            Check.same("count", two[0].count(what), two[1].count(what));
        }
        for (int what = 0; what < 5; what++) {
            Check.same("of", two[0].of(0, what), two[1].of(0, what));
        }
        Check.same("coin", two[0].coin(0), two[1].coin(0));
        Check.same("tried", two[0].tried(), two[1].tried());
    }
}
