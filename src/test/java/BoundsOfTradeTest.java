/** Promises 16 and 19 to 24, and "==== 3." of the document: each sentence that names a boundary case, one by one. */
public final class BoundsOfTradeTest {
    private static final int NONE = PaperBoys.NONE;
    private static final int LEAST = Integer.MIN_VALUE;
    private static final int GREATEST = Integer.MAX_VALUE;

    private BoundsOfTradeTest() {
    }

    public static void main(String[] args) {
        bundleOfNoSuchOnes();
        copiesFrom1To1000();
        hoursFrom4To20();
        noMoreThanMost();
        mostByTheBundle();
        costIsRoundedUp();
        oweToTheLastCent();
        oweNothing();
        oweByAllBundles();
        oweWithCoin();
        alreadyOwingTooMuch();
        twoHundredBundles();
        nothingIsBoughtOn400();
        refusedBundleChangesNothing();
        closeSellsAsManyAsAreAsked();
        closeSellsAsItHas();
        closeByCornersAndPapers();
        theLesserHourFirst();
        theOwnersFirst();
        theGreaterFistsFirst();
        theLesserNumberFirst();
        mayNotBeSold();
        cryForEachCopy();
        backIsCut();
        priceOfBackIsCut();
        termsOfTheDay();
        factsAtClose();
        costStays();
        onlyTheDaysBundles();
        weatherAndHeadlineOfTheDay();
        dayByDayTo400();
        closeOn400();
        ofNoSuchBundle();
        ofAnotherWhat();
        ofAheadOfClose();
        coinOfNoSuchBoy();
        coinBelowZero();
        coinAtItsGreatest();
        countedOfNoSuchOnes();
        countedOfADayNotClosed();
        countedFrom0To10000();
        sixtyCounts();
        falseIsMoreThanCameBack();
        falseWhereNothingCameBack();
        falseTheLastOneCounts();
        falseAsOf();
        falseOfEachPlaceOnce();
        shortNothingCounted();
        shortOfClosedDaysUpToT();
        shortCountedAsOf();
        shortZeroAtLeast();
        shortTheLastOneCounts();
        shortOfEachPlace();
        shortOfOneBundle();
        Check.hadAll(16, 16);
        Check.hadAll(19, 24);
        Check.end();
    }

    /** Two boys; of paper 0 a hundred copies are wanted at corner 1. */
    private static PaperBoys twoBoys() {
        PaperBoys x = new PaperBoys();
        Check.same("boy", x.boy(10, true, -1, 20), 0);
        Check.same("boy", x.boy(12, false, -1, 30), 1);
        Check.yes("want", x.want(1, 0, 100));
        return x;
    }

    private static PaperBoys twoBoys(String text) {
        PaperBoys x = twoBoys();
        Check.yes("terms", Check.terms(x, 0, text) > 0);
        return x;
    }

    private static void bundleOfNoSuchOnes() {
        Check.promise(16, "NONE: not as told (BOY, PAPER, CORNER)");
        PaperBoys x = twoBoys();
        for (int b : new int[] {LEAST, -1, 2, 39, 40, GREATEST}) {
            Check.same("boy " + b, x.bundle(b, 0, 1, 1, 5), NONE);
        }
        for (int paper : new int[] {LEAST, -1, 4, GREATEST}) {
            Check.same("paper " + paper, x.bundle(0, paper, 1, 1, 5), NONE);
        }
        for (int corner : new int[] {LEAST, -1, 10, GREATEST}) {
            Check.same("corner " + corner, x.bundle(0, 0, corner, 1, 5), NONE);
        }
        Check.same("none came", x.count(2), 0);
        Check.same("the least of each", x.bundle(0, 0, 0, 1, 5), 0);
        Check.same("the greatest of each", x.bundle(1, 3, 9, 1, 5), 1);
    }

    private static void copiesFrom1To1000() {
        Check.promise(16, "COPIES (1 to 1000)");
        PaperBoys x = twoBoys("price 0;most 1000;");
        for (int copies : new int[] {LEAST, -1, 0, 1001, GREATEST}) {
            Check.same(copies + " copies", x.bundle(0, 0, 1, copies, 5), NONE);
        }
        Check.same("none came", x.count(2), 0);
        Check.same("1 copy", x.bundle(0, 0, 1, 1, 5), 0);
        Check.same("1000 copies", x.bundle(0, 0, 1, 1000, 5), 1);
    }

    private static void hoursFrom4To20() {
        Check.promise(16, "an HOUR (4 to 20)");
        PaperBoys x = twoBoys();
        for (int hour : new int[] {LEAST, -4, 0, 3, 21, GREATEST}) {
            Check.same("at " + hour, x.bundle(0, 0, 1, 1, hour), NONE);
        }
        Check.same("none came", x.count(2), 0);
        Check.same("at 4", x.bundle(0, 0, 1, 1, 4), 0);
        Check.same("at 20", x.bundle(0, 0, 1, 1, 20), 1);
    }

    private static void noMoreThanMost() {
        Check.promise(16, "too many: no more COPIES than 'most'");
        PaperBoys x = twoBoys("price 0;");
        Check.same("201 without a LINE", x.bundle(0, 0, 1, 201, 5), NONE);
        Check.same("200 without a LINE", x.bundle(0, 0, 1, 200, 5), 0);
        Check.same("terms", Check.terms(x, 0, "price 0;most 7;"), 2);
        Check.same("8 of 7", x.bundle(0, 0, 1, 8, 5), NONE);
        Check.same("7 of 7", x.bundle(0, 0, 1, 7, 5), 1);
        Check.same("again: each BUNDLE by itself", x.bundle(0, 0, 1, 7, 5), 2);
        Check.same("terms", Check.terms(x, 0, "price 0;most 0;"), 2);
        Check.same("1 of 0", x.bundle(0, 0, 1, 1, 5), NONE);
        Check.same("terms", Check.terms(x, 0, "price 0;most 999;"), 2);
        Check.same("1000 of 999", x.bundle(0, 0, 1, 1000, 5), NONE);
        Check.same("999 of 999", x.bundle(0, 0, 1, 999, 5), 3);
        Check.same("terms of tomorrow", Check.terms(x, 1, "price 0;most 1;"), 2);
        Check.same("are not TODAY's", x.bundle(0, 0, 1, 999, 5), 4);
    }

    private static void mostByTheBundle() {
        Check.promise(16, "asked for the BUNDLE that is to be bought");
        PaperBoys x = twoBoys("price 0;most 5 if hour<8;most 9 if corner=2;most 3 if copies<4;most 1 if age=12;most 6;");
        Check.same("6 at seven", x.bundle(0, 0, 1, 6, 7), NONE);
        Check.same("5 at seven", x.bundle(0, 0, 1, 5, 7), 0);
        Check.same("10 at corner 2", x.bundle(0, 0, 2, 10, 8), NONE);
        Check.same("9 at corner 2", x.bundle(0, 0, 2, 9, 8), 1);
        Check.same("3 of few", x.bundle(1, 0, 1, 3, 8), 2);
        Check.same("4 of a boy of 12", x.bundle(1, 0, 1, 4, 8), NONE);
        Check.same("6 of the other", x.bundle(0, 0, 1, 6, 8), 3);
    }

    private static void costIsRoundedUp() {
        Check.promise(16, "COST is COPIES times price by 100, rounded up");
        int[][] due = {{1, 60, 1}, {1, 1, 1}, {1, 0, 0}, {1, 100, 1}, {1, 101, 2}, {1, 1000, 10}, {5, 60, 3}, {6, 60, 4},
            {99, 1, 1}, {100, 1, 1}, {101, 1, 2}, {1000, 0, 0}, {1000, 1, 10}, {3, 33, 1}, {3, 34, 2}, {1000, 100, 1000},
            {999, 100, 999}, {10, 999, 100}};
        for (int[] row : due) {
            PaperBoys x = twoBoys("most 1000;owe 1000;price " + row[1] + ";");
            Check.same("bundle", x.bundle(0, 0, 1, row[0], 5), 0);
            Check.same("COST of " + row[0] + " by " + row[1], x.of(0, 4), row[2]);
            Check.same("COIN less that", x.coin(0), -row[2]);
        }
    }

    private static void oweToTheLastCent() {
        Check.promise(16, "COIN must not be below 0 by more than 'owe'");
        PaperBoys x = twoBoys("price 100;");
        Check.same("101 without a LINE", x.bundle(0, 0, 1, 101, 5), NONE);
        Check.same("100 without a LINE", x.bundle(0, 0, 1, 100, 5), 0);
        Check.same("one more", x.bundle(0, 0, 1, 1, 5), NONE);
        Check.same("terms", Check.terms(x, 0, "price 100;owe 7;"), 2);
        Check.same("8 of 7", x.bundle(1, 0, 1, 8, 5), NONE);
        Check.same("7 of 7", x.bundle(1, 0, 1, 7, 5), 1);
        PaperBoys y = twoBoys("price 100;owe 1000;most 1000;");
        Check.same("1000 of 1000", y.bundle(0, 0, 1, 1000, 5), 0);
        PaperBoys z = twoBoys("price 101;owe 1000;most 1000;");
        Check.same("1010 of 1000", z.bundle(0, 0, 1, 1000, 5), NONE);
        Check.same("1000 of 1000 (990 copies by 101)", z.bundle(0, 0, 1, 990, 5), 0);
    }

    private static void oweNothing() {
        Check.promise(16, "owe 0");
        PaperBoys x = twoBoys("price 1;owe 0;");
        Check.same("a cent is too much", x.bundle(0, 0, 1, 1, 5), NONE);
        Check.same("terms", Check.terms(x, 0, "price 0;owe 0;"), 2);
        Check.same("for nothing", x.bundle(0, 0, 1, 1, 5), 0);
        Check.same("COIN", x.coin(0), 0);
    }

    private static void oweByAllBundles() {
        Check.promise(16, "what is owed by all of one's BUNDLES together");
        PaperBoys x = twoBoys("price 100;owe 10;");
        Check.same("6", x.bundle(0, 0, 1, 6, 5), 0);
        Check.same("5 more", x.bundle(0, 0, 1, 5, 5), NONE);
        Check.same("the other boy's", x.bundle(1, 0, 1, 10, 5), 1);
        Check.same("4 more", x.bundle(0, 0, 1, 4, 5), 2);
        Check.same("COIN", x.coin(0), -10);
        Check.same("the other's", x.coin(1), -10);
    }

    private static void oweWithCoin() {
        Check.promise(16, "one's COIN is that less");
        PaperBoys x = twoBoys("price 0;cry 1;owe 0;");
        Check.same("bundle", x.bundle(0, 0, 1, 50, 5), 0);
        Check.same("close", x.close(), 50);
        Check.same("COIN", x.coin(0), 50);
        Check.same("terms", Check.terms(x, 1, "price 100;owe 0;"), 2);
        Check.same("51 for 50", x.bundle(0, 0, 1, 51, 5), NONE);
        Check.same("50 for 50", x.bundle(0, 0, 1, 50, 5), 1);
        Check.same("COIN", x.coin(0), 0);
    }

    private static void alreadyOwingTooMuch() {
        Check.promise(16, "too much owed, when owe is less than it was");
        PaperBoys x = twoBoys("price 100;");
        Check.same("bundle", x.bundle(0, 0, 1, 50, 5), 0);
        Check.same("terms", Check.terms(x, 0, "price 0;owe 49;"), 2);
        Check.same("owing 50 of 49", x.bundle(0, 0, 1, 1, 5), NONE);
        Check.same("terms", Check.terms(x, 0, "price 0;owe 50;"), 2);
        Check.same("owing 50 of 50", x.bundle(0, 0, 1, 1, 5), 1);
    }

    private static void twoHundredBundles() {
        Check.promise(16, "its number; NONE: there are 200");
        PaperBoys x = twoBoys("price 0;");
        for (int k = 0; k < 200; k++) {
            Check.same("bundle " + k, x.bundle(k % 2, k % 4, k % 10, 1 + k % 50, 4 + k % 17), k);
            if (k == 120) {
                x.close();
            }
        }
        Check.same("one more", x.bundle(0, 0, 1, 1, 5), NONE);
        Check.same("count", x.count(2), 200);
        Check.same("the last one's DAY", x.of(199, 0), 1);
        Check.noOf(x, 200, 0);
        x.close();
        Check.same("another DAY", x.bundle(0, 0, 1, 1, 5), NONE);
        Check.same("count", x.count(2), 200);
        Check.same("the last one is told of", x.told(199, 0), 0);
        Check.same("no such one", x.told(200, 0), NONE);
    }

    private static void nothingIsBoughtOn400() {
        Check.promise(16, "NONE: TODAY is 400");
        PaperBoys x = twoBoys();
        Check.closeDays(x, 399);
        Check.same("DAY 399", x.bundle(0, 0, 1, 1, 5), 0);
        Check.same("its DAY", x.of(0, 0), 399);
        Check.same("close", x.close(), 1);
        Check.same("TODAY 400", x.bundle(0, 0, 1, 1, 5), NONE);
        Check.same("count", x.count(2), 1);
        Check.same("COIN: a cent for it, a cent of it", x.coin(0), 0);
    }

    private static void refusedBundleChangesNothing() {
        Check.promise(16, "a refused one is no BUNDLE and costs nothing");
        PaperBoys x = twoBoys();
        Check.same("bundle", x.bundle(0, 0, 1, 10, 5), 0);
        Check.same("too many", x.bundle(0, 0, 1, 201, 5), NONE);
        Check.same("too much owed", x.bundle(0, 0, 1, 200, 5), NONE);
        Check.same("not as told", x.bundle(0, 0, 1, 10, 3), NONE);
        Check.same("count", x.count(2), 1);
        Check.same("COIN", x.coin(0), -6);
        Check.noOf(x, 1, 4);
        Check.same("the next number", x.bundle(0, 0, 1, 10, 5), 1);
        Check.same("SOLD", x.close(), 20);
    }

    private static void closeSellsAsManyAsAreAsked() {
        Check.promise(19, "Each sells as many as are left to be ASKED");
        PaperBoys x = twoBoys("price 0;");
        Check.same("bundle", x.bundle(0, 0, 1, 99, 5), 0);
        Check.same("bundle", x.bundle(0, 0, 1, 2, 6), 1);
        Check.same("bundle", x.bundle(0, 0, 1, 2, 7), 2);
        Check.same("SOLD in all", x.close(), 100);
        Check.same("all of it", x.of(0, 1), 99);
        Check.same("the last one ASKED", x.of(1, 1), 1);
        Check.same("none is left", x.of(2, 1), 0);
        Check.same("EATEN", x.of(2, 3), 2);
        PaperBoys y = twoBoys("price 0;");
        Check.yes("none is ASKED", y.want(1, 0, 0));
        Check.same("bundle", y.bundle(0, 0, 1, 5, 5), 0);
        Check.same("SOLD in all", y.close(), 0);
        Check.same("SOLD", y.of(0, 1), 0);
        Check.same("EATEN", y.of(0, 3), 5);
    }

    private static void closeSellsAsItHas() {
        Check.promise(19, "and as it has");
        for (int copies : new int[] {1, 99, 100, 101, 200}) {
            PaperBoys x = twoBoys("price 0;");
            Check.same("bundle", x.bundle(0, 0, 1, copies, 5), 0);
            Check.same("SOLD of " + copies, x.close(), Math.min(copies, 100));
            Check.same("SOLD", x.of(0, 1), Math.min(copies, 100));
            Check.same("EATEN", x.of(0, 3), Math.max(copies - 100, 0));
            Check.same("COIN", x.coin(0), Math.min(copies, 100));
        }
    }

    private static void closeByCornersAndPapers() {
        Check.promise(19, "CORNER by CORNER, PAPER by PAPER");
        PaperBoys x = twoBoys("price 0;");
        int[][] place = {{9, 3}, {1, 0}, {1, 1}, {2, 0}, {0, 0}, {1, 0}, {9, 3}};
        int[] want = {4, 3, 5, 6, 7, 3, 4};
        int[] due = {4, 3, 5, 6, 7, 0, 0};
        for (int k = 0; k < place.length; k++) {
            Check.yes("want", x.want(place[k][0], place[k][1], want[k]));
            Check.same("bundle", x.bundle(0, place[k][1], place[k][0], 10, 5), k);
        }
        Check.same("SOLD in all", x.close(), 25);
        for (int k = 0; k < place.length; k++) {
            Check.same("SOLD of " + k, x.of(k, 1), due[k]);
        }
    }

    /** Bundles of ten copies each, told as a boy and an hour each; twelve are asked for, so the first two sell. */
    private static void firstTwo(PaperBoys x, int[][] boyAndHour, int first, int second) {
        Check.yes("want", x.want(1, 0, 12));
        for (int k = 0; k < boyAndHour.length; k++) {
            Check.same("bundle", x.bundle(boyAndHour[k][0], 0, 1, 10, boyAndHour[k][1]), k);
        }
        Check.same("SOLD in all", x.close(), 12);
        for (int k = 0; k < boyAndHour.length; k++) {
            Check.same("SOLD of " + k, x.of(k, 1), k == first ? 10 : k == second ? 2 : 0);
        }
    }

    /** Boys 0 to 3 with fists 20, 30, 30 and 0; boy 3 owns corner 1. */
    private static PaperBoys fourBoys() {
        PaperBoys x = twoBoys("price 0;");
        Check.same("boy", x.boy(9, true, -1, 30), 2);
        Check.same("boy", x.boy(9, true, -1, 0), 3);
        Check.yes("owner", x.owner(1, 3));
        return x;
    }

    private static void theLesserHourFirst() {
        Check.promise(19, "the lesser HOUR first");
        firstTwo(fourBoys(), new int[][] {{3, 20}, {1, 5}, {0, 4}}, 2, 1);
        firstTwo(fourBoys(), new int[][] {{3, 6}, {1, 6}, {0, 5}}, 2, 0);
    }

    private static void theOwnersFirst() {
        Check.promise(19, "of one HOUR the OWNER's");
        firstTwo(fourBoys(), new int[][] {{1, 5}, {0, 5}, {3, 5}}, 2, 0);
        firstTwo(fourBoys(), new int[][] {{1, 5}, {3, 5}, {3, 5}}, 1, 2);
        PaperBoys x = fourBoys();
        Check.yes("of another CORNER", x.owner(2, 0));
        Check.yes("nobody's", x.owner(1, -1));
        firstTwo(x, new int[][] {{3, 5}, {0, 5}, {1, 5}}, 2, 1);
        PaperBoys y = fourBoys();
        Check.yes("another OWNER", y.owner(1, 0));
        firstTwo(y, new int[][] {{3, 5}, {1, 5}, {0, 5}}, 2, 1);
    }

    private static void theGreaterFistsFirst() {
        Check.promise(19, "then the greater FISTS");
        firstTwo(fourBoys(), new int[][] {{0, 5}, {1, 5}, {0, 6}}, 1, 0);
        PaperBoys x = new PaperBoys();
        Check.same("boy", x.boy(10, true, -1, 98), 0);
        Check.same("boy", x.boy(10, true, -1, 99), 1);
        Check.same("boy", x.boy(10, true, -1, 0), 2);
        firstTwo(x, new int[][] {{2, 5}, {0, 5}, {1, 5}}, 2, 1);
    }

    private static void theLesserNumberFirst() {
        Check.promise(19, "then the lesser number of the BUNDLE");
        firstTwo(fourBoys(), new int[][] {{2, 5}, {1, 5}, {2, 5}}, 0, 1);
        firstTwo(fourBoys(), new int[][] {{1, 5}, {2, 5}, {1, 5}}, 0, 1);
        firstTwo(fourBoys(), new int[][] {{3, 5}, {3, 5}, {3, 5}}, 0, 1);
    }

    private static void mayNotBeSold() {
        Check.promise(19, "one that may not be sold sells none");
        PaperBoys x = twoBoys("price 100;cry 3;back 50;sell not if hour=4;");
        Check.same("bundle", x.bundle(0, 0, 1, 9, 4), 0);
        Check.same("bundle", x.bundle(1, 0, 1, 100, 5), 1);
        Check.same("what it does not sell is left for others", x.close(), 100);
        Check.same("SOLD", x.of(0, 1), 0);
        Check.same("BACK", x.of(0, 2), 4);
        Check.same("EATEN", x.of(0, 3), 5);
        Check.same("COIN", x.coin(0), -9 + 4);
    }

    private static void cryForEachCopy() {
        Check.promise(19, "For each copy 'cry' comes into the BOY's COIN");
        for (int cry : new int[] {0, 1, 1000}) {
            PaperBoys x = twoBoys("price 0;cry " + cry + ";");
            Check.same("bundle", x.bundle(0, 0, 1, 101, 5), 0);
            Check.same("close", x.close(), 100);
            Check.same("COIN by cry " + cry, x.coin(0), 100 * cry);
            Check.same("the other's COIN", x.coin(1), 0);
        }
    }

    private static void backIsCut() {
        Check.promise(19, "of those not SOLD 'back' of a hundred (cut) come BACK; the others are EATEN");
        int[][] due = {{1, 99, 0}, {1, 100, 1}, {2, 50, 1}, {3, 50, 1}, {3, 66, 1}, {3, 67, 2}, {100, 1, 1}, {99, 1, 0},
            {100, 0, 0}, {100, 99, 99}, {100, 100, 100}, {1, 1000, 1}, {100, 101, 100}};
        for (int[] row : due) {
            PaperBoys x = twoBoys("price 0;back " + row[1] + ";");
            Check.same("bundle", x.bundle(0, 0, 1, 100 + row[0], 5), 0);
            Check.same("close", x.close(), 100);
            Check.same("BACK of " + row[0] + " by " + row[1], x.of(0, 2), row[2]);
            Check.same("EATEN", x.of(0, 3), row[0] - row[2]);
            Check.same("SOLD", x.of(0, 1), 100);
        }
    }

    private static void priceOfBackIsCut() {
        Check.promise(19, "for each 100 of these price comes into the COIN (so many times price by 100, cut)");
        int[][] due = {{1, 99, 0}, {1, 100, 1}, {1, 199, 1}, {3, 33, 0}, {3, 34, 1}, {99, 1, 0}, {100, 1, 1}, {7, 0, 0},
            {100, 60, 60}, {101, 60, 60}, {1, 1000, 10}, {199, 1, 1}};
        for (int[] row : due) {
            PaperBoys x = twoBoys("owe 1000;back 100;cry 0;most 1000;price " + row[1] + ";");
            Check.same("want", x.want(1, 0, 0) ? 1 : 0, 1);
            Check.same("bundle", x.bundle(0, 0, 1, row[0], 5), 0);
            int owed = x.coin(0);
            Check.same("close", x.close(), 0);
            Check.same("for " + row[0] + " by " + row[1], x.coin(0) - owed, row[2]);
        }
    }

    private static void termsOfTheDay() {
        Check.promise(19, "TERMS are those of the DAY");
        PaperBoys x = twoBoys("price 100;cry 5;");
        Check.same("tomorrow's", Check.terms(x, 1, "cry 9;sell not;"), 2);
        Check.same("bundle", x.bundle(0, 0, 1, 10, 5), 0);
        Check.same("close", x.close(), 10);
        Check.same("TODAY's cry", x.coin(0), -10 + 50);
        Check.same("bundle", x.bundle(1, 0, 1, 10, 5), 1);
        Check.same("TODAY's, told behind the BUNDLE", Check.terms(x, 1, "cry 7;back 100;price 200;"), 3);
        Check.yes("want", x.want(1, 0, 4));
        Check.same("close", x.close(), 4);
        Check.same("6 cents were paid, 28 come by cry, 12 for those BACK", x.coin(1), -6 + 28 + 12);
    }

    private static void factsAtClose() {
        Check.promise(19, "asked for the BUNDLE at CLOSE: OWNER, BADGE, WEATHER as now");
        PaperBoys x = twoBoys("price 0;cry 5 if owner;cry 7 if badge;cry 9 if weather=2;");
        for (int k = 0; k < 2; k++) {
            Check.same("bundle", x.bundle(k, 0, 1, 1, 5), k);
        }
        Check.yes("owner", x.owner(1, 0));
        Check.yes("badge", x.badge(1, 0));
        Check.same("close", x.close(), 2);
        Check.same("the OWNER's", x.coin(0), 5);
        Check.same("the one with a BADGE", x.coin(1), 7);
        Check.same("bundle", x.bundle(1, 0, 1, 1, 5), 2);
        Check.yes("weather", Check.tape(x, 0, 2).weather());
        Check.same("close", x.close(), 1);
        Check.same("behind the BADGE's DAY, by WEATHER", x.coin(1), 7 + 9);
    }

    private static void costStays() {
        Check.promise(19, "COST stays as it was when the BUNDLE was bought");
        PaperBoys x = twoBoys("price 100;");
        Check.same("bundle", x.bundle(0, 0, 1, 10, 5), 0);
        Check.same("terms", Check.terms(x, 0, "price 500;"), 1);
        Check.same("COST", x.of(0, 4), 10);
        Check.same("close", x.close(), 10);
        Check.same("COST", x.of(0, 4), 10);
        Check.same("COIN", x.coin(0), 0);
    }

    private static void onlyTheDaysBundles() {
        Check.promise(19, "the DAY's BUNDLES are cried, once");
        PaperBoys x = twoBoys("price 0;");
        Check.same("bundle", x.bundle(0, 0, 1, 120, 5), 0);
        Check.same("close", x.close(), 100);
        Check.same("nothing on the next DAY", x.close(), 0);
        Check.same("SOLD stays", x.of(0, 1), 100);
        Check.same("COIN stays", x.coin(0), 100);
        Check.same("bundle", x.bundle(1, 0, 1, 120, 5), 1);
        Check.same("all that are ASKED, again", x.close(), 100);
        Check.same("SOLD stays", x.of(0, 1), 100);
        Check.same("COIN stays", x.coin(0), 100);
        Check.same("COIN", x.coin(1), 100);
    }

    private static void weatherAndHeadlineOfTheDay() {
        Check.promise(19, "ASKED (by the DAY's WEATHER and HEADLINE)");
        PaperBoys x = twoBoys("price 0;");
        Check.yes("weather", Check.tape(x, 0, 1, 255).weather());
        Check.yes("wet", x.table(0, 1, 50));
        Check.yes("wet", x.table(0, 3, 10));
        Check.yes("loud", x.table(1, 5, 50));
        Check.yes("headline", x.headline(0, 2, 5));
        Check.yes("headline of another PAPER", x.headline(1, 0, 5));
        int[] due = {100, 50, 25, 10, 10};
        for (int day = 0; day < due.length; day++) {
            Check.same("bundle", x.bundle(0, 0, 1, 150, 5), day);
            Check.same("SOLD on DAY " + day, x.close(), due[day]);
        }
    }

    private static void dayByDayTo400() {
        Check.promise(19, "Then it is the next DAY (DAY 399 closes, too: TODAY is 400 then)");
        PaperBoys x = twoBoys();
        for (int day = 0; day < 399; day++) {
            x.close();
            if (day % 50 == 0 || day == 398) {
                Check.same("TODAY", x.count(0), day + 1);
            }
        }
        Check.same("bundle on DAY 399", x.bundle(0, 0, 1, 7, 5), 0);
        Check.same("DAY 399 closes", x.close(), 7);
        Check.same("TODAY", x.count(0), 400);
        Check.same("SOLD", x.of(0, 1), 7);
        Check.same("COIN", x.coin(0), 7 - 5);
    }

    private static void closeOn400() {
        Check.promise(19, "NONE: TODAY is 400");
        PaperBoys x = twoBoys();
        Check.closeDays(x, 399);
        Check.same("bundle", x.bundle(0, 0, 1, 7, 5), 0);
        Check.same("DAY 399", x.close(), 7);
        for (int i = 0; i < 3; i++) {
            Check.same("TODAY 400", x.close(), NONE);
            Check.same("TODAY stays", x.count(0), 400);
            Check.same("COIN stays", x.coin(0), 2);
            Check.same("SOLD stays", x.of(0, 1), 7);
        }
    }

    private static void ofNoSuchBundle() {
        Check.promise(20, "NoSuchElementException: no such one");
        PaperBoys x = twoBoys();
        for (int what = 0; what <= 4; what++) {
            Check.noOf(x, 0, what);
        }
        Check.same("bundle", x.bundle(0, 0, 1, 7, 5), 0);
        for (int k : new int[] {LEAST, -1, 1, 199, 200, GREATEST}) {
            for (int what = 0; what <= 4; what++) {
                Check.noOf(x, k, what);
            }
        }
        Check.same("the last one", x.of(0, 4), 5);
    }

    private static void ofAnotherWhat() {
        Check.promise(20, "NoSuchElementException: another what");
        PaperBoys x = twoBoys();
        Check.same("bundle", x.bundle(0, 0, 1, 7, 5), 0);
        for (int what : new int[] {LEAST, -1, 5, GREATEST}) {
            Check.noOf(x, 0, what);
            Check.noOf(x, 1, what);
        }
        Check.same("0", x.of(0, 0), 0);
        Check.same("4", x.of(0, 4), 5);
        Check.same("close", x.close(), 7);
        Check.noOf(x, 0, 5);
    }

    private static void ofAheadOfClose() {
        Check.promise(20, "1 SOLD, 2 BACK, 3 EATEN (1 to 3: 0 ahead of CLOSE)");
        PaperBoys x = twoBoys("price 60;back 40;");
        Check.closeDays(x, 2);
        Check.same("bundle", x.bundle(0, 0, 1, 110, 5), 0);
        int[] ahead = {2, 0, 0, 0, 66};
        int[] behind = {2, 100, 4, 6, 66};
        for (int what = 0; what < 5; what++) {
            Check.same("ahead: " + what, x.of(0, what), ahead[what]);
        }
        Check.same("close", x.close(), 100);
        for (int what = 0; what < 5; what++) {
            Check.same("behind: " + what, x.of(0, what), behind[what]);
        }
        Check.same("another", x.bundle(0, 0, 1, 110, 5), 1);
        Check.same("ahead of its CLOSE", x.of(1, 1) + x.of(1, 2) + x.of(1, 3), 0);
        Check.same("the first one stays", x.of(0, 1), 100);
    }

    private static void coinOfNoSuchBoy() {
        Check.promise(21, "NoSuchElementException: no such one");
        PaperBoys x = new PaperBoys();
        Check.noCoin(x, 0);
        Check.noCoin(x, -1);
        Check.same("boy", x.boy(10, true, -1, 0), 0);
        for (int b : new int[] {LEAST, -1, 1, 39, 40, GREATEST}) {
            Check.noCoin(x, b);
        }
        Check.same("0 at first", x.coin(0), 0);
        Check.same("boy", x.boy(10, true, -1, 0), 1);
        Check.same("0 at first", x.coin(1), 0);
    }

    private static void coinBelowZero() {
        Check.promise(21, "COIN (0 at first, may be below 0)");
        PaperBoys x = twoBoys("price 100;cry 0;owe 1000;most 1000;");
        Check.same("bundle", x.bundle(0, 0, 1, 1000, 5), 0);
        Check.same("COIN", x.coin(0), -1000);
        Check.same("close", x.close(), 100);
        Check.same("COIN stays below 0", x.coin(0), -1000);
        Check.same("the other's", x.coin(1), 0);
    }

    private static void coinAtItsGreatest() {
        Check.promise(21, "COIN of much crying");
        PaperBoys x = new PaperBoys();
        Check.same("boy", x.boy(10, true, -1, 0), 0);
        Check.same("terms", Check.terms(x, 0, "price 0;cry 1000;most 1000;"), 3);
        Check.yes("wet", x.table(0, 0, 300));
        Check.yes("loud", x.table(1, 0, 300));
        for (int i = 0; i < 40; i++) {
            Check.yes("want", x.want(i % 10, i / 10, 400));
        }
        for (int k = 0; k < 200; k++) {
            Check.same("bundle", x.bundle(0, k / 10 % 4, k % 10, 1000, 5), k);
        }
        Check.same("of forty places 3600 each", x.close(), 144000);
        Check.same("COIN", x.coin(0), 144000000);
    }

    /** On DAY 0 at corner 1 eight copies of paper 0 come back (5 and 3); on DAY 1 at corner 9 four of paper 3. */
    private static PaperBoys withBacks() {
        PaperBoys x = twoBoys("price 0;back 100;");
        Check.yes("want", x.want(1, 0, 0));
        Check.same("bundle", x.bundle(0, 0, 1, 5, 5), 0);
        Check.same("bundle", x.bundle(1, 0, 1, 3, 5), 1);
        Check.same("close", x.close(), 0);
        Check.same("bundle", x.bundle(1, 3, 9, 4, 5), 2);
        Check.same("close", x.close(), 0);
        return x;
    }

    private static void countedOfNoSuchOnes() {
        Check.promise(22, "NONE: no such PAPER, CORNER");
        PaperBoys x = withBacks();
        for (int paper : new int[] {LEAST, -1, 4, GREATEST}) {
            Check.same("paper " + paper, x.counted(paper, 1, 0, 5), NONE);
        }
        for (int corner : new int[] {LEAST, -1, 10, GREATEST}) {
            Check.same("corner " + corner, x.counted(0, corner, 0, 5), NONE);
        }
        Check.same("none came", x.count(4), 0);
        Check.same("the least of each", x.counted(0, 0, 0, 0), 0);
        Check.same("the greatest of each", x.counted(3, 9, 1, 0), 1);
    }

    private static void countedOfADayNotClosed() {
        Check.promise(22, "NONE: a DAY that is not closed");
        PaperBoys x = new PaperBoys();
        Check.same("on DAY 0 none is closed", x.counted(0, 1, 0, 5), NONE);
        Check.same("none is ahead of DAY 0", x.counted(0, 1, -1, 5), NONE);
        PaperBoys y = withBacks();
        for (int day : new int[] {LEAST, -1, 2, 3, 399, 400, GREATEST}) {
            Check.same("DAY " + day, y.counted(0, 1, day, 5), NONE);
        }
        Check.same("none came", y.count(4), 0);
        Check.same("DAY 0", y.counted(0, 1, 0, 5), 0);
        Check.same("DAY 1", y.counted(0, 1, 1, 5), 1);
        Check.closeDays(y, 397);
        Check.same("DAY 399 is TODAY", y.counted(0, 1, 399, 5), NONE);
        Check.closeDays(y, 1);
        Check.same("DAY 399 is closed", y.counted(0, 1, 399, 5), 2);
        Check.same("DAY 400 never is", y.counted(0, 1, 400, 5), NONE);
    }

    private static void countedFrom0To10000() {
        Check.promise(22, "NONE: a number not 0 to 10000");
        PaperBoys x = withBacks();
        for (int copies : new int[] {LEAST, -1, 10001, GREATEST}) {
            Check.same(copies + " copies", x.counted(0, 1, 0, copies), NONE);
        }
        Check.same("none came", x.count(4), 0);
        Check.same("0 copies", x.counted(0, 1, 0, 0), 0);
        Check.same("10000 copies", x.counted(0, 1, 0, 10000), 1);
        Check.same("FALSE", x.falseCounts(400), 1);
    }

    private static void sixtyCounts() {
        Check.promise(22, "its number; NONE: there are 60");
        PaperBoys x = withBacks();
        for (int i = 0; i < 60; i++) {
            Check.same("count " + i, x.counted(i % 4, i % 10, i % 2, i), i);
        }
        Check.same("one more", x.counted(0, 1, 0, 5), NONE);
        Check.same("count", x.count(4), 60);
        int wrong = x.falseCounts(400);
        Check.same("one more", x.counted(2, 7, 0, 10000), NONE);
        Check.same("it is not counted", x.falseCounts(400), wrong);
        Check.closeDays(x, 1);
        Check.same("one more on another DAY", x.counted(0, 1, 0, 5), NONE);
        Check.same("count", x.count(4), 60);
    }

    private static void falseIsMoreThanCameBack() {
        Check.promise(23, "FALSE is one that is more than came BACK there");
        for (int copies = 7; copies <= 9; copies++) {
            PaperBoys x = withBacks();
            Check.same("counted", x.counted(0, 1, 0, copies), 0);
            Check.same(copies + " of 8", x.falseCounts(2), copies > 8 ? 1 : 0);
        }
        PaperBoys x = withBacks();
        Check.same("counted", x.counted(3, 9, 1, 4), 0);
        Check.same("4 of 4", x.falseCounts(2), 0);
        Check.same("counted", x.counted(3, 9, 1, 5), 1);
        Check.same("5 of 4", x.falseCounts(2), 1);
    }

    private static void falseWhereNothingCameBack() {
        Check.promise(23, "where nothing came BACK");
        int[][] places = {{1, 1, 0}, {0, 2, 0}, {0, 1, 1}, {3, 9, 0}};
        for (int[] place : places) {
            PaperBoys x = withBacks();
            Check.same("counted", x.counted(place[0], place[1], place[2], 0), 0);
            Check.same("0 of 0", x.falseCounts(2), 0);
            Check.same("counted", x.counted(place[0], place[1], place[2], 1), 1);
            Check.same("1 of 0", x.falseCounts(2), 1);
        }
    }

    private static void falseTheLastOneCounts() {
        Check.promise(23, "the last one of a DAY, PAPER, CORNER counts");
        PaperBoys x = withBacks();
        int[] copies = {9, 8, 100, 0};
        int[] due = {1, 0, 1, 0};
        for (int i = 0; i < 4; i++) {
            Check.same("counted", x.counted(0, 1, 0, copies[i]), i);
            Check.same("FALSE", x.falseCounts(2), due[i]);
        }
    }

    private static void falseAsOf() {
        Check.promise(23, "AS OF t (those told on t or ahead)");
        PaperBoys x = withBacks();
        Check.same("told on 2", x.counted(0, 1, 0, 9), 0);
        Check.closeDays(x, 1);
        Check.same("told on 3", x.counted(0, 1, 0, 8), 1);
        Check.closeDays(x, 1);
        Check.same("told on 4", x.counted(0, 1, 0, 10), 2);
        Check.same("told on 4", x.counted(3, 9, 1, 10), 3);
        int[] due = {0, 0, 1, 0, 2, 2};
        for (int t = 0; t < due.length; t++) {
            Check.same("AS OF " + t, x.falseCounts(t), due[t]);
        }
        Check.same("AS OF -1", x.falseCounts(-1), 0);
        Check.same("AS OF the least", x.falseCounts(LEAST), 0);
        Check.same("AS OF 400", x.falseCounts(400), 2);
        Check.same("AS OF the greatest", x.falseCounts(GREATEST), 2);
    }

    private static void falseOfEachPlaceOnce() {
        Check.promise(23, "How many COUNTS are FALSE");
        PaperBoys x = withBacks();
        for (int i = 0; i < 3; i++) {
            Check.same("counted", x.counted(0, 1, 0, 9 + i), i);
        }
        Check.same("the last one alone", x.falseCounts(2), 1);
        for (int i = 0; i < 40; i++) {
            Check.same("counted", x.counted(i / 10, i % 10, 0, 9), 3 + i);
        }
        Check.same("each place of a DAY", x.falseCounts(2), 40);
        Check.same("another DAY", x.counted(0, 1, 1, 9), 43);
        Check.same("another place", x.falseCounts(2), 41);
    }

    private static void shortNothingCounted() {
        Check.promise(24, "nothing counted: 0 counted");
        PaperBoys x = withBacks();
        Check.same("both", x.shortOf(1), 12);
        Check.same("without BUNDLES", new PaperBoys().shortOf(0), 0);
        PaperBoys y = twoBoys("price 0;");
        Check.same("bundle", y.bundle(0, 0, 1, 150, 5), 0);
        Check.same("close", y.close(), 100);
        Check.same("what is EATEN is not SHORT", y.shortOf(0), 0);
    }

    private static void shortOfClosedDaysUpToT() {
        Check.promise(24, "of all closed DAYS up to t");
        PaperBoys x = withBacks();
        Check.same("bundle of TODAY", x.bundle(0, 0, 1, 7, 5), 3);
        int[] due = {8, 12, 12, 12};
        for (int t = 0; t < due.length; t++) {
            Check.same("up to " + t, x.shortOf(t), due[t]);
        }
        Check.same("up to -1", x.shortOf(-1), 0);
        Check.same("up to the least", x.shortOf(LEAST), 0);
        Check.same("up to the greatest", x.shortOf(GREATEST), 12);
        Check.same("close", x.close(), 0);
        Check.same("up to 1", x.shortOf(1), 12);
        Check.same("up to 2", x.shortOf(2), 19);
    }

    private static void shortCountedAsOf() {
        Check.promise(24, "less what was counted AS OF t");
        PaperBoys x = withBacks();
        Check.same("told on 2", x.counted(0, 1, 0, 3), 0);
        Check.closeDays(x, 1);
        Check.same("told on 3", x.counted(0, 1, 0, 6), 1);
        Check.same("told on 3", x.counted(3, 9, 1, 4), 2);
        int[] due = {8, 12, 9, 2, 2};
        for (int t = 0; t < due.length; t++) {
            Check.same("AS OF " + t, x.shortOf(t), due[t]);
        }
        Check.same("AS OF the greatest", x.shortOf(GREATEST), 2);
    }

    private static void shortZeroAtLeast() {
        Check.promise(24, "of each DAY, PAPER, CORNER 0 at least");
        for (int copies = 7; copies <= 9; copies++) {
            PaperBoys x = withBacks();
            Check.same("counted", x.counted(0, 1, 0, copies), 0);
            Check.same(copies + " of 8", x.shortOf(2), 4 + Math.max(8 - copies, 0));
        }
        PaperBoys x = withBacks();
        Check.same("counted", x.counted(0, 1, 0, 10000), 0);
        Check.same("more there is no help elsewhere", x.shortOf(2), 4);
        Check.same("counted where nothing came BACK", x.counted(1, 1, 0, 5), 1);
        Check.same("it is no help", x.shortOf(2), 4);
    }

    private static void shortTheLastOneCounts() {
        Check.promise(24, "the last one counts, not the sum");
        PaperBoys x = withBacks();
        int[] copies = {8, 2, 5, 0};
        int[] due = {4, 10, 7, 12};
        for (int i = 0; i < 4; i++) {
            Check.same("counted", x.counted(0, 1, 0, copies[i]), i);
            Check.same("SHORT", x.shortOf(2), due[i]);
        }
    }

    private static void shortOfEachPlace() {
        Check.promise(24, "what came BACK of all BUNDLES of a DAY, PAPER, CORNER together");
        PaperBoys x = twoBoys("price 0;back 100;");
        Check.yes("want", x.want(1, 0, 0));
        for (int k = 0; k < 6; k++) {
            Check.same("bundle", x.bundle(k % 2, k / 2 % 2, 1, 10 + k, 5), k);
        }
        Check.same("close", x.close(), 0);
        Check.same("75 in all", x.shortOf(0), 75);
        Check.same("of paper 0", x.counted(0, 1, 0, 49), 0);
        Check.same("50 of it came BACK", x.shortOf(1), 26);
        Check.same("not FALSE", x.falseCounts(1), 0);
        Check.same("of paper 0", x.counted(0, 1, 0, 51), 1);
        Check.same("FALSE", x.falseCounts(1), 1);
        Check.same("of paper 1", x.shortOf(1), 25);
    }

    private static void shortOfOneBundle() {
        Check.promise(24, "of one BUNDLE alone");
        PaperBoys x = twoBoys("price 0;back 100;");
        Check.same("bundle", x.bundle(0, 0, 1, 101, 5), 0);
        Check.same("close", x.close(), 100);
        Check.same("SHORT", x.shortOf(0), 1);
        Check.same("counted", x.counted(0, 1, 0, 1), 0);
        Check.same("SHORT on DAY 0", x.shortOf(0), 1);
        Check.same("SHORT on DAY 1", x.shortOf(1), 0);
        Check.same("not FALSE", x.falseCounts(1), 0);
    }
}
