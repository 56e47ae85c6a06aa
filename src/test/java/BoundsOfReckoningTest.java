/** Promises 25 to 36, and "==== 4." of the document: each sentence that names a boundary case, one by one. */
public final class BoundsOfReckoningTest {
    private static final int NONE = PaperBoys.NONE;
    private static final int LEAST = Integer.MIN_VALUE;
    private static final int GREATEST = Integer.MAX_VALUE;

    /** Shares of WEATHER 0 and HEADLINE 0 alone. */
    private static final int[] SURE = {1, 0, 0, 0, 1, 0, 0, 0, 0, 0};

    private BoundsOfReckoningTest() {
    }

    public static void main(String[] args) {
        bestOfNoSuchOnes();
        bestByTenBytes();
        sharesFrom0To20();
        bestFrom0To400();
        bestTheLeastOfLikeOnes();
        bestRoundsAsCloseDoes();
        bestByTheSharesAlone();
        bestWithoutShares();
        bestOn400();
        bestEmptiesTheTape();
        expectedAheadOfAny();
        expectedByShares();
        expectedIsALong();
        expectedOfTheLatestThatToldOne();
        triedOfAFault();
        triedOfClosedDays();
        triedByTheText();
        triedAsTheyAreNow();
        triedRounds();
        triedChangesNothing();
        triedAgainAndAgain();
        triedWithoutBundles();
        triedAtItsLeastAndGreatest();
        eatenAheadOfAny();
        eatenOfTheLatestWithoutAFault();
        partedOfOneToEight();
        partedByAllBytes();
        partedByNoSuchWay();
        partedForNoSuchSum();
        partedEmptiesTheTape();
        listedLikeGains();
        listedLikeMights();
        listedSentAway();
        listedWithTheMostAsking();
        listedHasPeace();
        bestPartingWithPeace();
        bestPartingTheFirst();
        bestPartingOfNoGains();
        bestPartingOfEight();
        partedAgainAndAgain();
        partedAtNoSuchBoy();
        partedAtOfTheLatest();
        peaceOfNoSuchSum();
        peaceAtLeastTheSum();
        peaceMoreMight();
        peaceOfEachBoy();
        peaceByThatParted();
        truckOf20Bytes();
        truckNowhere();
        truckInTime();
        truckNeedNotGo();
        truckTheSoonestWay();
        truckTheFirstWay();
        truckMustChooseByTime();
        truckEmptiesTheTape();
        truckAtNoSuchPlace();
        truckAtOfTheLatest();
        strikeNumbersTo100000();
        strikeOfOneToFiftyWeeks();
        strikeOffers();
        strikeFundBelowZero();
        strikePurseBelowZero();
        strikeGrowth();
        strikeTheFirstCounts();
        strikeNoWeekEndsIt();
        strikeAtItsGreatest();
        strikeEmptiesTheTape();
        struckAheadOfAny();
        struckOfTheLatest();
        struckAnotherWhat();
        countAnotherWhat();
        countOfEach();
        Check.hadAll(25, 36);
        Check.end();
    }

    /** A hundred copies of paper 3 are wanted at corner 9. */
    private static PaperBoys wanting() {
        PaperBoys x = new PaperBoys();
        Check.yes("want", x.want(9, 3, 100));
        return x;
    }

    private static int best(PaperBoys x, int[] shares, int price, int cry, int back) {
        return Check.tape(x, shares).best(9, 3, price, cry, back);
    }

    private static void bestOfNoSuchOnes() {
        Check.promise(25, "price, cry 0 to 1000 and back 0 to 100; NONE: not as told");
        PaperBoys x = wanting();
        int[][] bounds = {{0, 9}, {0, 3}, {0, 1000}, {0, 1000}, {0, 100}};
        for (int i = 0; i < 5; i++) {
            for (int wrong : new int[] {LEAST, bounds[i][0] - 1, bounds[i][1] + 1, GREATEST}) {
                int[] n = {9, 3, 60, 1, 0};
                n[i] = wrong;
                Check.same("argument " + i + ": " + wrong, Check.tape(x, SURE).best(n[0], n[1], n[2], n[3], n[4]), NONE);
            }
        }
        Check.same("none told one", x.expected(), 0);
        Check.same("the least of each", Check.tape(x, SURE).best(0, 0, 0, 0, 0), 0);
        Check.same("the greatest of each", best(x, SURE, 1000, 1000, 100), 100);
        Check.same("price 1000 alone", best(x, SURE, 1000, 0, 0), 0);
        Check.same("cry 1000 alone", best(x, SURE, 0, 1000, 0), 100);
        Check.same("back 100 alone", best(x, SURE, 0, 0, 100), 0);
    }

    private static void bestByTenBytes() {
        Check.promise(25, "the tape's ten bytes being shares");
        PaperBoys x = wanting();
        Check.same("no bytes", x.best(9, 3, 60, 1, 0), NONE);
        for (int size : new int[] {1, 4, 9, 11, 20, 420}) {
            Check.same(size + " bytes", Check.tape(x, new byte[size]).best(9, 3, 60, 1, 0), NONE);
        }
        Check.same("ten bytes", Check.tape(x, new byte[10]).best(9, 3, 60, 1, 0), 0);
    }

    private static void sharesFrom0To20() {
        Check.promise(25, "shares of four WEATHERS and six HEADLINES, each 0 to 20");
        for (int i = 0; i < 10; i++) {
            for (int share : new int[] {21, 128, 255}) {
                int[] row = SURE.clone();
                row[i] = share;
                Check.same("share " + i + ": " + share, best(wanting(), row, 60, 1, 0), NONE);
            }
            int[] row = SURE.clone();
            row[i] = 20;
            Check.same("share " + i + ": 20", best(wanting(), row, 60, 1, 0), 100);
        }
    }

    private static void bestFrom0To400() {
        Check.promise(25, "The n from 0 to 400 with the greatest");
        PaperBoys x = wanting();
        Check.yes("want", x.want(9, 3, 399));
        Check.same("399 are ASKED", best(x, SURE, 0, 1, 0), 399);
        Check.yes("want", x.want(9, 3, 400));
        Check.same("400 are ASKED", best(x, SURE, 0, 1, 0), 400);
        Check.yes("wet", x.table(0, 0, 300));
        Check.yes("loud", x.table(1, 0, 300));
        Check.same("3600 are ASKED", best(x, SURE, 0, 1, 0), 400);
        Check.same("expected", x.expected(), 400);
        Check.yes("want", x.want(9, 3, 0));
        Check.same("none is ASKED", best(x, SURE, 1, 1000, 0), 0);
        Check.same("expected", x.expected(), 0);
    }

    private static void bestTheLeastOfLikeOnes() {
        Check.promise(25, "of like ones the least");
        PaperBoys x = wanting();
        Check.same("all n are alike", best(x, SURE, 0, 0, 0), 0);
        Check.same("as dear as it is cried", best(x, SURE, 100, 1, 0), 0);
        Check.same("those behind 100 are alike", best(x, SURE, 0, 1, 0), 100);
        Check.yes("want", x.want(9, 3, 1));
        Check.same("1 copy is BEST", best(x, SURE, 100, 2, 0), 1);
        Check.same("expected", x.expected(), 1);
        Check.yes("want", x.want(9, 3, 3));
        Check.same("1 for 2, 1 for 3", best(x, SURE, 50, 1, 0), 2);
        Check.same("all come BACK for what they cost", best(x, SURE, 100, 2, 100), 3);
    }

    private static void bestRoundsAsCloseDoes() {
        Check.promise(25, "cry times those SOLD, less COST, and what comes for those BACK");
        PaperBoys x = wanting();
        Check.yes("want", x.want(9, 3, 1));
        Check.same("COST is rounded up: 1 of 1 for a cent", best(x, SURE, 1, 1, 0), 0);
        Check.yes("want", x.want(9, 3, 2));
        Check.same("2 for a cent", best(x, SURE, 1, 1, 0), 2);
        Check.same("expected", x.expected(), 1);
        Check.yes("wet", x.table(0, 1, 0));
        int[] half = {1, 1, 0, 0, 1, 0, 0, 0, 0, 0};
        // Of two copies by 75 (2 cents) half the time both are SOLD, half the time one comes BACK for 0.75, cut to 0.
        Check.same("75", best(x, half, 75, 3, 50), 2);
        Check.same("6 - 2, and 0 - 2 + 0", x.expected(), 2);
        Check.same("100", best(x, half, 100, 3, 50), 2);
        Check.same("6 - 2, and 0 - 2 + 1", x.expected(), 3);
        Check.same("BACK is cut: 49 of a hundred of 2", best(x, half, 100, 3, 49), 2);
        Check.same("6 - 2, and 0 - 2 + 0", x.expected(), 2);
    }

    private static void bestByTheSharesAlone() {
        Check.promise(25, "on TODAY by chances: WEATHER, HEADLINES and TERMS are of no matter");
        PaperBoys x = wanting();
        Check.yes("wet", x.table(0, 2, 50));
        Check.yes("loud", x.table(1, 5, 10));
        Check.yes("weather", Check.tape(x, 3).weather());
        Check.yes("wet", x.table(0, 3, 0));
        Check.yes("headline", x.headline(3, 0, 5));
        Check.same("terms", Check.terms(x, 0, "price 1000;cry 0;most 1;sell not;"), 4);
        Check.same("by shares of WEATHER 2", best(x, new int[] {0, 0, 1, 0, 1, 0, 0, 0, 0, 0}, 60, 1, 0), 50);
        Check.same("by shares of HEADLINE 5", best(x, new int[] {1, 0, 0, 0, 0, 0, 0, 0, 0, 1}, 60, 1, 0), 10);
        Check.same("by both", best(x, new int[] {0, 0, 1, 0, 0, 0, 0, 0, 0, 1}, 60, 1, 0), 5);
    }

    private static void bestWithoutShares() {
        Check.promise(25, "shares of 0");
        PaperBoys x = wanting();
        Check.same("none at all", best(x, new int[10], 60, 1, 0), 0);
        Check.same("none of WEATHERS", best(x, new int[] {0, 0, 0, 0, 9, 9, 9, 9, 9, 9}, 60, 1, 0), 0);
        Check.same("none of HEADLINES", best(x, new int[] {9, 9, 9, 9, 0, 0, 0, 0, 0, 0}, 60, 1, 0), 0);
        Check.same("expected", x.expected(), 0);
    }

    private static void bestOn400() {
        Check.promise(25, "also on TODAY 400");
        PaperBoys x = wanting();
        Check.closeDays(x, 400);
        Check.same("best", best(x, SURE, 60, 1, 0), 100);
    }

    private static void bestEmptiesTheTape() {
        Check.promise(25, "the tape is empty then");
        PaperBoys x = wanting();
        Check.same("best", best(x, SURE, 60, 1, 0), 100);
        Check.same("count", x.count(5), 0);
        Check.same("not as told", best(x, SURE, 1001, 1, 0), NONE);
        Check.same("count", x.count(5), 0);
        Check.same("eleven", Check.tape(x, new byte[11]).best(9, 3, 60, 1, 0), NONE);
        Check.same("count", x.count(5), 0);
    }

    private static void expectedAheadOfAny() {
        Check.promise(26, "0 ahead of any");
        PaperBoys x = wanting();
        Check.same("ahead of any", x.expected(), 0);
        Check.same("not as told", best(x, SURE, 1001, 1, 0), NONE);
        Check.same("ahead of any that told one", x.expected(), 0);
    }

    private static void expectedByShares() {
        Check.promise(26, "the sum of GAINS by shares multiplied");
        PaperBoys x = new PaperBoys();
        Check.yes("want", x.want(9, 3, 10));
        Check.yes("wet", x.table(0, 1, 200));
        Check.yes("loud", x.table(1, 5, 50));
        // 10, 5, 20 and 10 are ASKED with shares 10, 14, 15 and 21.
        Check.same("best", best(x, new int[] {2, 3, 0, 0, 5, 0, 0, 0, 0, 7}, 100, 3, 0), 10);
        Check.same("five times 120, five times 78", x.expected(), 990);
    }

    private static void expectedIsALong() {
        Check.promise(26, "more than an int holds");
        PaperBoys x = new PaperBoys();
        Check.yes("want", x.want(9, 3, 400));
        int[] all = {20, 20, 20, 20, 20, 20, 20, 20, 20, 20};
        Check.same("best", best(x, all, 0, 1000, 0), 400);
        Check.same("400000 by 80 by 120", x.expected(), 3840000000L);
    }

    private static void expectedOfTheLatestThatToldOne() {
        Check.promise(26, "of the latest best() that told one");
        PaperBoys x = wanting();
        Check.same("best", best(x, SURE, 60, 1, 0), 100);
        Check.same("expected", x.expected(), 40);
        Check.same("not as told", x.best(9, 3, 60, 1, 0), NONE);
        Check.same("not as told", best(x, SURE, 60, 1, 101), NONE);
        Check.same("it stays", x.expected(), 40);
        Check.yes("want", x.want(9, 3, 50));
        Check.same("it stays", x.expected(), 40);
        Check.same("another", best(x, SURE, 60, 1, 0), 50);
        Check.same("expected", x.expected(), 20);
        Check.same("0 copies are a BUNDLE that is told", best(x, SURE, 200, 1, 0), 0);
        Check.same("expected", x.expected(), 0);
    }

    /** Two boys; on DAY 0 a bundle of 10 and one of 5, on DAY 1 one of 7, at corner 1; eight are asked for. */
    private static PaperBoys twoDays() {
        PaperBoys x = new PaperBoys();
        Check.same("boy", x.boy(10, true, -1, 20), 0);
        Check.same("boy", x.boy(12, false, -1, 30), 1);
        Check.yes("want", x.want(1, 0, 8));
        Check.same("bundle", x.bundle(0, 0, 1, 10, 5), 0);
        Check.same("bundle", x.bundle(1, 0, 1, 5, 6), 1);
        Check.same("close", x.close(), 8);
        Check.same("bundle", x.bundle(1, 0, 1, 7, 5), 2);
        return x;
    }

    private static void triedOfAFault() {
        Check.promise(27, "-1000000000 less the place of a FAULT");
        PaperBoys x = twoDays();
        Check.same("at 0", Check.tried(x, "x"), -1000000000);
        Check.same("its kind", x.fault(), 1);
        Check.same("at 6", Check.tried(x, "price 1001;"), -1000000006);
        Check.same("its kind", x.fault(), 2);
        Check.same("at 300", Check.tried(x, " ".repeat(301)), -1000000300);
        Check.same("its kind", x.fault(), 1);
        Check.same("at the end", Check.tried(x, "sell"), -1000000004);
        Check.same("the tape is empty then", x.count(5), 0);
        Check.same("300 bytes", Check.tried(x, " ".repeat(300)), 8 - 6 - 3);
        Check.same("its kind", x.fault(), 0);
    }

    private static void triedOfClosedDays() {
        Check.promise(27, "all closed DAYS gone through");
        PaperBoys x = twoDays();
        Check.same("DAY 0 alone", Check.tried(x, "price 0;"), 8);
        Check.same("close", x.close(), 7);
        Check.same("DAYS 0 and 1", Check.tried(x, "price 0;"), 15);
        Check.closeDays(x, 397);
        Check.same("bundle on DAY 399", x.bundle(0, 0, 1, 3, 5), 3);
        Check.same("not closed yet", Check.tried(x, "price 0;"), 15);
        Check.same("close", x.close(), 3);
        Check.same("DAY 399, too", Check.tried(x, "price 0;"), 18);
    }

    private static void triedByTheText() {
        Check.promise(27, "price, cry, back and who may sell by the text; 'most' and 'owe' of no matter");
        PaperBoys x = twoDays();
        Check.same("by the empty text", Check.tried(x, ""), 8 - 6 - 3);
        Check.same("price", Check.tried(x, "price 100;"), 8 - 10 - 5);
        Check.same("cry", Check.tried(x, "cry 3;"), 24 - 6 - 3);
        Check.same("back: 2 and 5 come, 1 and 3 cents", Check.tried(x, "back 100;"), 8 - 6 - 3 + 1 + 3);
        Check.same("nobody sells", Check.tried(x, "sell not;"), -6 - 3);
        Check.same("one does not sell", Check.tried(x, "sell not if copies=10;"), 5 - 6 - 3);
        Check.same("most and owe", Check.tried(x, "most 0;owe 0;"), 8 - 6 - 3);
        Check.same("TERMS of DAY 1", Check.terms(x, 1, "price 1000;cry 9;"), 2);
        Check.same("are of no matter", Check.tried(x, ""), 8 - 6 - 3);
        Check.same("close", x.close(), 7);
        Check.same("for all DAYS", Check.tried(x, ""), 8 - 6 - 3 + 7 - 5);
    }

    private static void triedAsTheyAreNow() {
        Check.promise(27, "BUNDLES, WEATHER, HEADLINES, WANT, OWNERS as they are now");
        PaperBoys x = twoDays();
        Check.yes("want", x.want(1, 0, 4));
        Check.same("WANT", Check.tried(x, "price 0;"), 4);
        Check.yes("want", x.want(1, 0, 12));
        Check.same("WANT", Check.tried(x, "price 0;"), 12);
        Check.yes("wet", x.table(0, 2, 50));
        Check.yes("weather", Check.tape(x, 2).weather());
        Check.same("WEATHER and WET", Check.tried(x, "price 0;"), 6);
        Check.yes("loud", x.table(1, 0, 50));
        Check.same("LOUD", Check.tried(x, "price 0;"), 3);
        Check.yes("loud", x.table(1, 0, 200));
        Check.same("12 are ASKED: 10 at five, 2 at six", Check.tried(x, "price 0;cry 5 if school;"), 52);
        Check.same("by OWNER", Check.tried(x, "price 0;sell not if owner;"), 12);
        Check.yes("owner", x.owner(1, 0));
        Check.same("by OWNER", Check.tried(x, "price 0;sell not if owner;"), 5);
        Check.yes("badge", x.badge(1, 0));
        Check.same("by BADGE", Check.tried(x, "price 0;sell not if badge;"), 10);
        Check.same("the BUNDLES' COST and COIN stay", x.of(0, 4), 6);
    }

    private static void triedRounds() {
        Check.promise(27, "COST rounded up, BACK and what comes for it cut, of each BUNDLE");
        PaperBoys x = twoDays();
        Check.same("1 cent for each", Check.tried(x, "price 1;cry 0;"), -2);
        Check.same("9 of a hundred of 2 and 5 come BACK: none", Check.tried(x, "price 100;cry 0;back 9;"), -15);
        Check.same("20 of a hundred: none and 1", Check.tried(x, "price 100;cry 0;back 20;"), -14);
        Check.same("2 and 5 by 19: none and none", Check.tried(x, "price 19;cry 0;back 100;"), -3);
        Check.same("2 and 5 by 20: none and 1", Check.tried(x, "price 20;cry 0;back 100;"), -2);
        Check.same("back above 100 is as 100", Check.tried(x, "price 100;cry 0;back 1000;"), -8);
    }

    private static void triedChangesNothing() {
        Check.promise(27, "nothing but what is TRIED");
        PaperBoys x = twoDays();
        int[] ahead = {x.coin(0), x.coin(1), x.of(0, 1), x.of(0, 2), x.of(0, 3), x.of(0, 4), x.count(0), x.count(3)};
        Check.same("tried", Check.tried(x, "price 7;cry 9;back 50;sell not if school;"), 45 - 2);
        Check.same("a FAULT", Check.tried(x, "price 7;cry 9;x"), -1000000014);
        int[] behind = {x.coin(0), x.coin(1), x.of(0, 1), x.of(0, 2), x.of(0, 3), x.of(0, 4), x.count(0), x.count(3)};
        for (int i = 0; i < ahead.length; i++) {
            Check.same("place " + i, behind[i], ahead[i]);
        }
        Check.same("told by TERMS, not by it", x.told(0, 0), 60);
        Check.same("close by TERMS", x.close(), 7);
        Check.same("COIN", x.coin(1), -3 - 5 + 7);
    }

    private static void triedAgainAndAgain() {
        Check.promise(27, "each text by itself");
        PaperBoys x = twoDays();
        for (int i = 0; i < 8; i++) {
            String cond = "owner or ".repeat(20) + (i % 2 == 0 ? "school;" : "badge;");
            Check.same("tried " + i, Check.tried(x, "price 0;cry 5 if " + cond), i % 2 == 0 ? 40 : 8);
            Check.same("EATEN", x.triedEaten(), 7);
            Check.same("a FAULT", Check.tried(x, "price 0;sell not;cry 5 if " + "owner or ".repeat(20) + ";"), -1000000206);
        }
        Check.same("nothing is left of it", Check.tried(x, "price 0;"), 8);
    }

    private static void triedWithoutBundles() {
        Check.promise(27, "without closed DAYS or BUNDLES");
        PaperBoys x = new PaperBoys();
        Check.same("an empty tape", x.tried(), 0);
        Check.same("EATEN", x.triedEaten(), 0);
        Check.closeDays(x, 5);
        Check.same("no BUNDLES", Check.tried(x, "price 1000;"), 0);
    }

    private static void triedAtItsLeastAndGreatest() {
        Check.promise(27, "the greatest that can be gained and lost");
        PaperBoys x = new PaperBoys();
        Check.same("boy", x.boy(10, true, -1, 0), 0);
        Check.same("terms", Check.terms(x, 0, "price 0;most 1000;"), 2);
        Check.yes("wet", x.table(0, 0, 300));
        Check.yes("loud", x.table(1, 0, 300));
        for (int i = 0; i < 40; i++) {
            Check.yes("want", x.want(i % 10, i / 10, 400));
        }
        for (int k = 0; k < 200; k++) {
            Check.same("bundle", x.bundle(0, k / 10 % 4, k % 10, 1000, 5), k);
        }
        Check.same("close", x.close(), 144000);
        Check.same("gained", Check.tried(x, "price 0;cry 1000;"), 144000000);
        Check.same("EATEN", x.triedEaten(), 56000);
        Check.same("lost", Check.tried(x, "price 1000;sell not;"), -2000000);
        Check.same("EATEN", x.triedEaten(), 200000);
    }

    private static void eatenAheadOfAny() {
        Check.promise(28, "NONE ahead of any");
        PaperBoys x = twoDays();
        Check.same("ahead of any", x.triedEaten(), NONE);
        Check.same("a FAULT", Check.tried(x, "x"), -1000000000);
        Check.same("ahead of any without a FAULT", x.triedEaten(), NONE);
        Check.same("all SOLD or BACK", Check.tried(x, "price 0;back 100;"), 8);
        Check.same("none is EATEN", x.triedEaten(), 0);
    }

    private static void eatenOfTheLatestWithoutAFault() {
        Check.promise(28, "in the latest tried() without a FAULT");
        PaperBoys x = twoDays();
        Check.same("tried", Check.tried(x, "price 0;"), 8);
        Check.same("2 and 5", x.triedEaten(), 7);
        Check.same("a FAULT", Check.tried(x, "back 100;x"), -1000000009);
        Check.same("it stays", x.triedEaten(), 7);
        Check.same("tried", Check.tried(x, "price 0;back 50;"), 8);
        Check.same("1 of 2, 3 of 5", x.triedEaten(), 4);
        Check.same("tried", Check.tried(x, "price 0;sell not;"), 0);
        Check.same("all", x.triedEaten(), 15);
        Check.same("close", x.close(), 7);
        Check.same("CLOSE does not change it", x.triedEaten(), 15);
    }

    private static byte[] filled(int size, int value) {
        byte[] row = new byte[size];
        java.util.Arrays.fill(row, (byte) value);
        return row;
    }

    private static void partedOfOneToEight() {
        Check.promise(29, "BOYS and CORNERS (as many of each, 1 to 8)");
        PaperBoys x = new PaperBoys();
        for (int n : new int[] {LEAST, -8, -1, 0, 9, 46341, 65536, GREATEST}) {
            Check.same("n " + n + " of an empty tape", x.parted(n, 0, 1), NONE);
            Check.same("n " + n, Check.tape(x, filled(162, 1)).parted(n, 0, 1), NONE);
            Check.same("n " + n, Check.tape(x, filled(162, 1)).parted(n, 1, 1), NONE);
        }
        for (int n = 1; n <= 8; n++) {
            for (int way = 0; way < 2; way++) {
                PaperBoys y = new PaperBoys();
                Check.same("n " + n, Check.tape(y, filled(2 * n * n, 255)).parted(n, way, 255), 255 * n);
                for (int k = 0; k < n; k++) {
                    Check.same("BOY " + k, y.partedAt(k), k);
                }
                Check.same("GAINS of 0", Check.tape(y, new byte[2 * n * n]).parted(n, way, 1), 0);
            }
        }
    }

    private static void partedByAllBytes() {
        Check.promise(29, "the tape's bytes are GAINS, then mights likewise, of n BOYS and CORNERS");
        for (int n = 1; n <= 8; n++) {
            PaperBoys x = new PaperBoys();
            for (int size : new int[] {0, n * n, 2 * n * n - 1, 2 * n * n + 1, 2 * (n + 1) * (n + 1)}) {
                Check.same(size + " bytes of " + n, Check.tape(x, filled(size, 1)).parted(n, 0, 1), NONE);
                Check.same(size + " bytes of " + n, Check.tape(x, filled(size, 1)).parted(n, 1, 1), NONE);
            }
        }
        PaperBoys x = new PaperBoys();
        // BOY 0 gains 10 at 0 and 11 at 1, BOY 1 20 and 22; BOY 0 has might 7 at CORNER 1, BOY 1 has 6.
        Check.same("BOY by BOY, CORNER by CORNER", Check.tape(x, 10, 11, 20, 22, 0, 7, 9, 6).parted(2, 0, 0), 31);
        Check.same("BOY 0", x.partedAt(0), 1);
        Check.same("BOY 1", x.partedAt(1), 0);
    }

    private static void partedByNoSuchWay() {
        Check.promise(29, "way 0 LISTED by offers, 1 BEST; NONE: not as told");
        PaperBoys x = new PaperBoys();
        for (int way : new int[] {LEAST, -1, 2, GREATEST}) {
            Check.same("way " + way, Check.tape(x, 5, 5).parted(1, way, 1), NONE);
        }
        Check.same("none was told", x.partedAt(0), NONE);
        Check.same("way 0", Check.tape(x, 5, 5).parted(1, 0, 1), 5);
        Check.same("way 1", Check.tape(x, 6, 5).parted(1, 1, 1), 6);
    }

    private static void partedForNoSuchSum() {
        Check.promise(29, "the sum of no matter; for a sum (1 to 255)");
        PaperBoys x = new PaperBoys();
        for (int sum : new int[] {LEAST, -1, 0, 256, GREATEST}) {
            Check.same("BEST for " + sum, Check.tape(x, 5, 5).parted(1, 1, sum), NONE);
            Check.same("none was told", x.partedAt(0), NONE);
        }
        for (int sum : new int[] {LEAST, -1, 0, 256, GREATEST}) {
            Check.same("LISTED for " + sum, Check.tape(x, 7, 5).parted(1, 0, sum), 7);
        }
        Check.same("BEST for 1", Check.tape(x, 8, 5).parted(1, 1, 1), 8);
        Check.same("BEST for 255", Check.tape(x, 9, 5).parted(1, 1, 255), 9);
    }

    private static void partedEmptiesTheTape() {
        Check.promise(29, "the tape is empty then");
        PaperBoys x = new PaperBoys();
        Check.same("LISTED", Check.tape(x, 7, 5).parted(1, 0, 0), 7);
        Check.same("count", x.count(5), 0);
        Check.same("BEST", Check.tape(x, 7, 5).parted(1, 1, 1), 7);
        Check.same("count", x.count(5), 0);
        for (int[] wrong : new int[][] {{0, 0, 1}, {1, 2, 1}, {1, 1, 0}, {2, 0, 1}, {9, 0, 1}}) {
            Check.same("not as told", Check.tape(x, 7, 5).parted(wrong[0], wrong[1], wrong[2]), NONE);
            Check.same("count", x.count(5), 0);
        }
    }

    private static void listedLikeGains() {
        Check.promise(29, "LISTED: of like ones the least CORNER");
        PaperBoys x = new PaperBoys();
        // Both ask for CORNER 0 first, where BOY 1 has more might; BOY 0 goes to CORNER 1.
        Check.same("parted", Check.tape(x, 4, 4, 4, 4, 1, 9, 2, 1).parted(2, 0, 0), 8);
        Check.same("BOY 0", x.partedAt(0), 1);
        Check.same("BOY 1", x.partedAt(1), 0);
        Check.same("parted", Check.tape(x, 3, 5, 5, 1, 1, 1, 1, 1, 1, 9, 9, 9, 9, 9, 9, 9, 9, 9).parted(3, 0, 0), 7);
        Check.same("BOY 0 at the lesser of 1 and 2", x.partedAt(0), 1);
        Check.same("BOY 1 at the least", x.partedAt(1), 0);
        Check.same("BOY 2 at what is left", x.partedAt(2), 2);
    }

    private static void listedLikeMights() {
        Check.promise(29, "LISTED: a CORNER keeps the one with the greatest might (of like ones the least BOY)");
        PaperBoys x = new PaperBoys();
        Check.same("like mights", Check.tape(x, 1, 9, 2, 9, 5, 5, 5, 5).parted(2, 0, 0), 11);
        Check.same("BOY 0", x.partedAt(0), 1);
        Check.same("BOY 1 has one more", Check.tape(x, 1, 9, 2, 9, 5, 5, 5, 6).parted(2, 0, 0), 10);
        Check.same("BOY 1", x.partedAt(1), 1);
        Check.same("BOY 0 has one more", Check.tape(x, 1, 9, 2, 9, 5, 6, 5, 5).parted(2, 0, 0), 11);
        Check.same("BOY 0", x.partedAt(0), 1);
        // BOY 0 comes to CORNER 1 late, sent away from CORNER 0, and finds BOY 1 there with like might.
        int[] late = {9, 8, 0, 0, 9, 1, 9, 0, 0, 1, 5, 0, 1, 5, 0, 2, 5, 0};
        Check.same("late", Check.tape(x, late).parted(3, 0, 0), 18);
        Check.same("BOY 0, the least, has CORNER 1", x.partedAt(0), 1);
        Check.same("BOY 1 has what is left", x.partedAt(1), 2);
        Check.same("BOY 2 has CORNER 0", x.partedAt(2), 0);
    }

    private static void listedSentAway() {
        Check.promise(29, "LISTED: of those that have not sent him away");
        PaperBoys x = new PaperBoys();
        // All want CORNERS 0, 1, 2, 3 in this order, and everywhere the last BOY has the greatest might.
        int[] row = new int[32];
        for (int boy = 0; boy < 4; boy++) {
            for (int corner = 0; corner < 4; corner++) {
                row[4 * boy + corner] = 40 - 10 * corner;
                row[16 + 4 * boy + corner] = boy;
            }
        }
        Check.same("parted", Check.tape(x, row).parted(4, 0, 0), 100);
        for (int k = 0; k < 4; k++) {
            Check.same("BOY " + k, x.partedAt(k), 3 - k);
        }
    }

    /** Eight BOYS ask 57 times, which is the most that can be: all are sent away by all but the last CORNERS they like. */
    private static void listedWithTheMostAsking() {
        Check.promise(29, "LISTED: each BOY without a CORNER asks, as long as there is one");
        int[] row = {
            6, 3, 4, 2, 7, 8, 1, 5, 8, 5, 2, 3, 7, 6, 1, 4, 8, 5, 4, 7, 2, 3, 1, 6, 6, 8, 7, 3, 4, 2, 1, 5,
            2, 3, 5, 8, 6, 4, 1, 7, 2, 7, 8, 5, 6, 3, 1, 4, 3, 4, 8, 7, 5, 6, 1, 2, 8, 2, 3, 4, 7, 5, 1, 6,
            4, 6, 6, 8, 2, 1, 7, 7, 1, 5, 8, 7, 1, 4, 6, 2, 2, 4, 5, 3, 8, 6, 5, 4, 6, 1, 4, 6, 7, 8, 8, 5,
            8, 7, 3, 1, 6, 7, 4, 1, 7, 2, 1, 4, 5, 5, 3, 6, 5, 3, 2, 2, 3, 2, 1, 8, 3, 8, 7, 5, 4, 3, 2, 3};
        int[] due = {3, 2, 4, 5, 0, 6, 7, 1};
        PaperBoys x = new PaperBoys();
        Check.same("seven gain 2, one gains 1", Check.tape(x, row).parted(8, 0, 0), 15);
        for (int k = 0; k < 8; k++) {
            Check.same("BOY " + k, x.partedAt(k), due[k]);
        }
        Check.same("PEACE", x.peace(1), 1);
    }

    /** Numbers that look like no rule's, and are the same in every run. */
    private static int[] row(int n, int seed, int most) {
        int[] row = new int[2 * n * n];
        int state = seed * 7919 + 17;
        for (int i = 0; i < row.length; i++) {
            state = state * 1103515245 + 12345;
            row[i] = (state >>> 16) % (most + 1);
        }
        return row;
    }

    private static void listedHasPeace() {
        Check.promise(29, "LISTED has PEACE for every sum, so some way always has it");
        for (int seed = 0; seed < 40; seed++) {
            for (int n = 1; n <= 8; n++) {
                PaperBoys x = new PaperBoys();
                int[] row = row(n, seed, seed % 2 == 0 ? 255 : 3);
                int listed = Check.tape(x, row).parted(n, 0, 0);
                Check.same("peace of LISTED", x.peace(1), 1);
                int best = Check.tape(x, row).parted(n, 1, 1);
                Check.same("peace of BEST", x.peace(1), 1);
                Check.yes("BEST gains no less", best >= listed);
            }
        }
    }

    private static void bestPartingWithPeace() {
        Check.promise(29, "BEST: of all ways to part with PEACE that with the greatest sum of GAINS");
        // BOY 0 at 1, BOY 1 at 0 gain 9; BOY 1 would fight for CORNER 1, where he gains 6 more.
        int[] row = {1, 9, 0, 6, 5, 5, 5, 6};
        PaperBoys x = new PaperBoys();
        Check.same("PEACE for 7", Check.tape(x, row).parted(2, 1, 7), 9);
        Check.same("BOY 0", x.partedAt(0), 1);
        Check.same("PEACE for 6", Check.tape(x, row).parted(2, 1, 6), 7);
        Check.same("BOY 0", x.partedAt(0), 0);
        Check.same("PEACE for 255", Check.tape(x, row).parted(2, 1, 255), 9);
        Check.same("PEACE for 1", Check.tape(x, row).parted(2, 1, 1), 7);
        row[7] = 5;
        Check.same("like might is no fight", Check.tape(x, row).parted(2, 1, 1), 9);
        // 255 more is a fight even for the greatest sum.
        int[] far = {1, 2, 0, 255, 0, 0, 0, 1};
        Check.same("0 and 255", Check.tape(x, far).parted(2, 1, 255), 256);
        int[] wide = {0, 255, 0, 255, 0, 0, 0, 1};
        Check.same("both gain 255 more at CORNER 1", Check.tape(x, wide).parted(2, 1, 255), 255);
        Check.same("the mightier has it", x.partedAt(1), 1);
    }

    private static void bestPartingTheFirst() {
        Check.promise(29, "BEST: the first (BOY by BOY the lesser CORNER)");
        PaperBoys x = new PaperBoys();
        for (int n = 1; n <= 8; n++) {
            Check.same("all alike", Check.tape(x, filled(2 * n * n, 3)).parted(n, 1, 1), 3 * n);
            for (int k = 0; k < n; k++) {
                Check.same("BOY " + k, x.partedAt(k), k);
            }
        }
        // 0-1-2 gains 8; 0-2-1, 1-0-2 and 2-1-0 gain 9 each, and nobody has more might than another.
        int[] row = {3, 3, 3, 3, 3, 3, 3, 3, 2, 0, 0, 0, 0, 0, 0, 0, 0, 0};
        Check.same("three alike", Check.tape(x, row).parted(3, 1, 1), 9);
        int[] due = {0, 2, 1};
        for (int k = 0; k < 3; k++) {
            Check.same("BOY " + k, x.partedAt(k), due[k]);
        }
    }

    private static void bestPartingOfNoGains() {
        Check.promise(29, "BEST: a sum of GAINS of 0 is one, too");
        PaperBoys x = new PaperBoys();
        for (int i = 0; i < 2; i++) {
            Check.same("parted", Check.tape(x, 0, 9, 9, 0, 0, 0, 0, 0).parted(2, 1, 1), 18);
            Check.same("BOY 0", x.partedAt(0), 1);
            Check.same("no GAINS", Check.tape(x, new byte[8]).parted(2, 1, 1), 0);
            Check.same("BOY 0", x.partedAt(0), 0);
            Check.same("BOY 1", x.partedAt(1), 1);
        }
    }

    private static void bestPartingOfEight() {
        Check.promise(29, "BEST of eight");
        int[] row = new int[128];
        for (int boy = 0; boy < 8; boy++) {
            row[8 * boy + 7 - boy] = 255;
            row[8 * boy + boy] = 254;
        }
        PaperBoys x = new PaperBoys();
        Check.same("parted", Check.tape(x, row).parted(8, 1, 1), 2040);
        for (int k = 0; k < 8; k++) {
            Check.same("BOY " + k, x.partedAt(k), 7 - k);
        }
        Check.same("no ninth BOY", x.partedAt(8), NONE);
    }

    private static void partedAgainAndAgain() {
        Check.promise(29, "each PARTED by itself");
        PaperBoys x = new PaperBoys();
        int[] weak = {9, 1, 9, 1, 1, 1, 2, 1};
        int[] mighty = {9, 1, 9, 1, 2, 1, 1, 1};
        for (int i = 0; i < 4; i++) {
            Check.same("BOY 0 is sent away", Check.tape(x, weak).parted(2, 0, 0), 10);
            Check.same("BOY 0", x.partedAt(0), 1);
            Check.same("BOY 1 is sent away", Check.tape(x, mighty).parted(2, 0, 0), 10);
            Check.same("BOY 0", x.partedAt(0), 0);
            Check.same("BOY 0 is sent away", Check.tape(x, weak).parted(2, 0, 0), 10);
            Check.same("not as told", Check.tape(x, weak).parted(2, -1, 0), NONE);
            Check.same("BOY 0 is not", Check.tape(x, 9, 1, 1, 9, 2, 2, 1, 1).parted(2, 0, 0), 18);
            Check.same("BOY 0", x.partedAt(0), 0);
            Check.same("BEST", Check.tape(x, mighty).parted(2, 1, 1), 10);
            Check.same("BOY 0", x.partedAt(0), 0);
            Check.same("BEST", Check.tape(x, weak).parted(2, 1, 1), 10);
            Check.same("BOY 0", x.partedAt(0), 1);
            Check.same("a small sum behind a great one", Check.tape(x, 3, 1).parted(1, 1, 1), 3);
        }
    }

    private static void partedAtNoSuchBoy() {
        Check.promise(30, "NONE: there is none such, or ahead of any");
        PaperBoys x = new PaperBoys();
        for (int k : new int[] {LEAST, -1, 0, 7, 8, GREATEST}) {
            Check.same("ahead of any, BOY " + k, x.partedAt(k), NONE);
        }
        Check.same("not as told", x.parted(1, 0, 1), NONE);
        Check.same("ahead of any", x.partedAt(0), NONE);
        Check.same("parted", Check.tape(x, filled(18, 1)).parted(3, 0, 1), 3);
        for (int k : new int[] {LEAST, -1, 3, 7, 8, GREATEST}) {
            Check.same("BOY " + k, x.partedAt(k), NONE);
        }
        Check.same("BOY 0", x.partedAt(0), 0);
        Check.same("BOY 2", x.partedAt(2), 2);
    }

    private static void partedAtOfTheLatest() {
        Check.promise(30, "of the latest parted() that was not NONE");
        PaperBoys x = new PaperBoys();
        Check.same("parted", Check.tape(x, 1, 9, 2, 9, 5, 5, 5, 5).parted(2, 0, 0), 11);
        Check.same("not as told", Check.tape(x, 9, 1, 9, 2, 5, 5, 5, 5).parted(2, 1, 0), NONE);
        Check.same("not as told", Check.tape(x, 9, 1, 9, 2, 5, 5, 5, 5).parted(2, 2, 1), NONE);
        Check.same("not as told", Check.tape(x, 9, 1).parted(2, 0, 1), NONE);
        Check.same("BOY 0 stays", x.partedAt(0), 1);
        Check.same("BOY 1 stays", x.partedAt(1), 0);
        Check.same("fewer BOYS", Check.tape(x, 5, 5).parted(1, 1, 1), 5);
        Check.same("BOY 0", x.partedAt(0), 0);
        Check.same("there is no BOY 1", x.partedAt(1), NONE);
        Check.same("a sum of 0 is not NONE", Check.tape(x, new byte[8]).parted(2, 0, 0), 0);
        Check.same("BOY 1", x.partedAt(1), 1);
    }

    private static void peaceOfNoSuchSum() {
        Check.promise(31, "NONE: no such sum, or ahead of any");
        PaperBoys x = new PaperBoys();
        Check.same("ahead of any", x.peace(1), NONE);
        Check.same("ahead of any", x.peace(255), NONE);
        Check.same("not as told", x.parted(1, 0, 1), NONE);
        Check.same("ahead of any", x.peace(1), NONE);
        Check.same("parted", Check.tape(x, 5, 5).parted(1, 0, 1), 5);
        for (int sum : new int[] {LEAST, -1, 0, 256, GREATEST}) {
            Check.same("sum " + sum, x.peace(sum), NONE);
        }
        Check.same("sum 1", x.peace(1), 1);
        Check.same("sum 255", x.peace(255), 1);
    }

    private static void peaceAtLeastTheSum() {
        Check.promise(31, "GAINS more there by at least a told sum");
        PaperBoys x = new PaperBoys();
        // BEST for 255 is BOY 0 at 1, BOY 1 at 0; BOY 1 gains 6 more at CORNER 1 and has more might there.
        Check.same("parted", Check.tape(x, 1, 9, 0, 6, 5, 5, 5, 6).parted(2, 1, 255), 9);
        int[] sums = {1, 5, 6, 7, 255};
        int[] due = {0, 0, 0, 1, 1};
        for (int i = 0; i < sums.length; i++) {
            Check.same("PEACE for " + sums[i], x.peace(sums[i]), due[i]);
        }
        Check.same("he gains 255 more", Check.tape(x, 0, 255, 0, 255, 0, 0, 0, 0).parted(2, 1, 255), 255);
        Check.same("but has no more might", x.peace(255), 1);
    }

    private static void peaceMoreMight() {
        Check.promise(31, "and one has more might there than the BOY who has it");
        for (int might = 4; might <= 6; might++) {
            PaperBoys x = new PaperBoys();
            // BOY 0 is at 1 with might 5; BOY 1 gains 1 more there; the greatest sum is 10.
            Check.same("parted", Check.tape(x, 1, 9, 1, 2, 5, 5, 5, might).parted(2, 1, 2), 10);
            Check.same("BOY 0", x.partedAt(0), 1);
            Check.same("PEACE for 1 with might " + might, x.peace(1), might > 5 ? 0 : 1);
            Check.same("PEACE for 2", x.peace(2), 1);
        }
    }

    /** All are best at the CORNER of their number; one of them gains 2 more at another one, and has more might there. */
    private static void peaceOfEachBoy() {
        Check.promise(31, "a BOY would fight for a CORNER: any BOY, any CORNER other than one's own");
        for (int boy = 0; boy < 8; boy++) {
            for (int corner = 0; corner < 8; corner++) {
                int[] row = new int[128];
                for (int b = 0; b < 8; b++) {
                    row[9 * b] = 200;
                }
                row[8 * boy + corner] = 202;
                row[64 + 8 * boy + corner] = 1;
                PaperBoys x = new PaperBoys();
                Check.same("parted", Check.tape(x, row).parted(8, 1, 3), boy == corner ? 1602 : 1600);
                Check.same("BOY " + boy, x.partedAt(boy), boy);
                Check.same("PEACE for 2: " + boy + ", " + corner, x.peace(2), boy == corner ? 1 : 0);
                Check.same("PEACE for 3", x.peace(3), 1);
            }
        }
    }

    private static void peaceByThatParted() {
        Check.promise(31, "by the GAINS and mights of that parted()");
        PaperBoys x = new PaperBoys();
        Check.same("parted", Check.tape(x, 1, 9, 0, 6, 5, 5, 5, 6).parted(2, 1, 7), 9);
        Check.same("no PEACE for 6", x.peace(6), 0);
        Check.same("not as told", Check.tape(x, filled(8, 1)).parted(2, 1, 0), NONE);
        Check.same("no PEACE for 6", x.peace(6), 0);
        Check.same("PEACE for 7", x.peace(7), 1);
        Check.same("another", Check.tape(x, filled(8, 1)).parted(2, 1, 1), 2);
        Check.same("PEACE for 1", x.peace(1), 1);
    }

    private static void truckOf20Bytes() {
        Check.promise(32, "NONE: not 20 bytes");
        PaperBoys x = new PaperBoys();
        Check.same("no bytes", x.truck(), NONE);
        for (int size : new int[] {1, 2, 18, 19, 21, 22, 40, 420}) {
            Check.same(size + " bytes", Check.tape(x, filled(size, 255)).truck(), NONE);
        }
        Check.same("20 bytes", Check.tape(x, filled(20, 255)).truck(), 0);
    }

    private static void truckNowhere() {
        Check.promise(32, "0, if it need go nowhere (CORNER 0's is of no matter)");
        PaperBoys x = new PaperBoys();
        Check.same("nowhere", Check.truck(x), 0);
        for (int minute : new int[] {0, 1, 255, 256, 65534, 65535}) {
            Check.same("CORNER 0 by " + minute, Check.truck(x, 0, minute), 0);
            Check.same("no way", x.truckAt(0), NONE);
            Check.same("CORNER 0 by " + minute + ", and 3", Check.truck(x, 0, minute, 3, 10), 10);
            Check.same("the way", x.truckAt(0), 3);
            Check.same("the way's end", x.truckAt(1), NONE);
        }
    }

    private static void truckInTime() {
        Check.promise(32, "NONE: it can't be in time");
        PaperBoys x = new PaperBoys();
        for (int corner = 1; corner < 10; corner++) {
            Check.same("by 10", Check.truck(x, corner, 10), 10);
            Check.same("by 9", Check.truck(x, corner, 9), NONE);
            Check.same("by 0", Check.truck(x, corner, 0), NONE);
        }
        Check.same("the second by 20", Check.truck(x, 1, 20, 2, 20), 20);
        Check.same("the second by 19", Check.truck(x, 1, 19, 2, 19), NONE);
        Check.same("one by 10, one by 20", Check.truck(x, 1, 20, 2, 10), 20);
        int[] all = {1, 10, 2, 20, 3, 30, 4, 40, 5, 50, 6, 60, 7, 70, 8, 80, 9, 90};
        Check.same("each at the last MINUTE", Check.truck(x, all), 90);
        all[17] = 89;
        Check.same("a MINUTE less for the last one", Check.truck(x, all), NONE);
        all[17] = 90;
        all[1] = 9;
        Check.same("a MINUTE less for the first one", Check.truck(x, all), NONE);
        Check.yes("minutes", x.minutes(0, 1, 1));
        Check.same("by 1", Check.truck(x, 1, 1), 1);
        Check.same("by 0", Check.truck(x, 1, 0), NONE);
    }

    private static void truckNeedNotGo() {
        Check.promise(32, "65535: it need not go there (the higher byte first)");
        PaperBoys x = new PaperBoys();
        Check.same("by 65534", Check.truck(x, 9, 65534), 10);
        Check.same("it goes", x.truckAt(0), 9);
        Check.same("by 65535", Check.truck(x, 9, 65535), 0);
        Check.same("it does not", x.truckAt(0), NONE);
        Check.same("by 65280", Check.truck(x, 9, 65280), 10);
        Check.same("by 255", Check.truck(x, 9, 255), 10);
        Check.same("by 256", Check.truck(x, 9, 256), 10);
        Check.yes("minutes", x.minutes(0, 9, 200));
        Check.yes("minutes", x.minutes(8, 9, 200));
        Check.yes("minutes", x.minutes(0, 8, 200));
        Check.same("by 399", Check.truck(x, 8, 399, 9, 399), NONE);
        Check.same("by 400", Check.truck(x, 8, 399, 9, 400), 400);
        Check.same("8 first", x.truckAt(0), 8);
    }

    private static void truckTheSoonestWay() {
        Check.promise(32, "the way that is at the last one first");
        PaperBoys x = new PaperBoys();
        Check.yes("minutes", x.minutes(0, 1, 30));
        Check.yes("minutes", x.minutes(1, 2, 5));
        Check.same("2 then 1", Check.truck(x, 1, 1000, 2, 1000), 15);
        Check.same("2 first", x.truckAt(0), 2);
        Check.same("1 last", x.truckAt(1), 1);
        Check.same("1 alone: no way round by 2", Check.truck(x, 1, 1000), 30);
        Check.same("1 alone by 29", Check.truck(x, 1, 29), NONE);
        Check.yes("minutes", x.minutes(2, 3, 200));
        Check.yes("minutes", x.minutes(0, 3, 1));
        Check.yes("minutes", x.minutes(1, 3, 1));
        Check.same("3, 1, 2", Check.truck(x, 1, 1000, 2, 1000, 3, 1000), 7);
        int[] due = {3, 1, 2, NONE};
        for (int k = 0; k < 4; k++) {
            Check.same("CORNER " + k, x.truckAt(k), due[k]);
        }
    }

    private static void truckTheFirstWay() {
        Check.promise(32, "of like ones the first (CORNER by CORNER the lesser one)");
        PaperBoys x = new PaperBoys();
        int[] all = {1, 99, 2, 99, 3, 99, 4, 99, 5, 99, 6, 99, 7, 99, 8, 99, 9, 99};
        Check.same("all nine", Check.truck(x, all), 90);
        for (int k = 0; k < 9; k++) {
            Check.same("CORNER " + k, x.truckAt(k), k + 1);
        }
        Check.yes("minutes", x.minutes(8, 9, 9));
        Check.same("all nine", Check.truck(x, all), 89);
        for (int k = 0; k < 9; k++) {
            Check.same("CORNER " + k, x.truckAt(k), k + 1);
        }
        Check.yes("minutes", x.minutes(1, 9, 8));
        Check.same("8, 9 and 1 together", Check.truck(x, all), 87);
        int[] due = {1, 9, 8, 2, 3, 4, 5, 6, 7};
        for (int k = 0; k < 9; k++) {
            Check.same("CORNER " + k, x.truckAt(k), due[k]);
        }
    }

    private static void truckMustChooseByTime() {
        Check.promise(32, "each must be come to by a told MINUTE");
        PaperBoys x = new PaperBoys();
        Check.yes("minutes", x.minutes(0, 1, 5));
        Check.yes("minutes", x.minutes(1, 2, 20));
        Check.same("1 first is sooner for 1", Check.truck(x, 1, 5, 2, 25), 25);
        Check.same("2 must be first", Check.truck(x, 1, 30, 2, 24), 30);
        Check.same("2 is first", x.truckAt(0), 2);
        Check.same("neither", Check.truck(x, 1, 29, 2, 24), NONE);
        Check.same("nine, the last one first", Check.truck(x, 1, 99, 2, 99, 3, 99, 4, 99, 5, 99, 6, 99, 7, 99, 8, 99, 9, 10), 90);
        int[] due = {9, 1, 3, 2};
        Check.same("9 is first", x.truckAt(0), due[0]);
        for (int k = 1; k < 4; k++) {
            Check.same("CORNER " + k, x.truckAt(k), due[k]);
        }
    }

    private static void truckEmptiesTheTape() {
        Check.promise(32, "the tape is empty then");
        PaperBoys x = new PaperBoys();
        Check.same("truck", Check.truck(x, 1, 10), 10);
        Check.same("count", x.count(5), 0);
        Check.same("late", Check.truck(x, 1, 9), NONE);
        Check.same("count", x.count(5), 0);
        Check.same("19 bytes", Check.tape(x, filled(19, 255)).truck(), NONE);
        Check.same("count", x.count(5), 0);
    }

    private static void truckAtNoSuchPlace() {
        Check.promise(33, "NONE: there is none such, or ahead of any");
        PaperBoys x = new PaperBoys();
        for (int k : new int[] {LEAST, -1, 0, 8, 9, GREATEST}) {
            Check.same("ahead of any, " + k, x.truckAt(k), NONE);
        }
        Check.same("late", Check.truck(x, 1, 9), NONE);
        Check.same("ahead of any that was not NONE", x.truckAt(0), NONE);
        Check.same("two", Check.truck(x, 1, 99, 9, 99), 20);
        for (int k : new int[] {LEAST, -1, 2, 8, 9, GREATEST}) {
            Check.same("place " + k, x.truckAt(k), NONE);
        }
        Check.same("place 0", x.truckAt(0), 1);
        Check.same("place 1", x.truckAt(1), 9);
        Check.same("nine", Check.truck(x, 1, 99, 2, 99, 3, 99, 4, 99, 5, 99, 6, 99, 7, 99, 8, 99, 9, 99), 90);
        Check.same("place 8", x.truckAt(8), 9);
        Check.same("place 9", x.truckAt(9), NONE);
    }

    private static void truckAtOfTheLatest() {
        Check.promise(33, "of the latest truck() that was not NONE");
        PaperBoys x = new PaperBoys();
        Check.same("two", Check.truck(x, 4, 99, 7, 99), 20);
        Check.same("late", Check.truck(x, 1, 99, 2, 99, 3, 9), NONE);
        Check.same("19 bytes", Check.tape(x, filled(19, 255)).truck(), NONE);
        Check.same("place 0 stays", x.truckAt(0), 4);
        Check.same("place 1 stays", x.truckAt(1), 7);
        Check.yes("minutes", x.minutes(0, 4, 200));
        Check.same("it stays", x.truckAt(0), 4);
        Check.same("one", Check.truck(x, 2, 99), 10);
        Check.same("place 0", x.truckAt(0), 2);
        Check.same("place 1", x.truckAt(1), NONE);
        Check.same("nowhere", Check.truck(x), 0);
        Check.same("place 0", x.truckAt(0), NONE);
    }

    private static void strikeNumbersTo100000() {
        Check.promise(34, "fund, need, growth, purse, loss (0 to 100000 each)");
        PaperBoys x = new PaperBoys();
        for (int i = 0; i < 5; i++) {
            for (int wrong : new int[] {LEAST, -1, 100001, GREATEST}) {
                int[] n = {0, 0, 0, 0, 0};
                n[i] = wrong;
                Check.same("number " + i + ": " + wrong, Check.tape(x, 5, 5).strike(n[0], n[1], n[2], n[3], n[4]), NONE);
            }
        }
        Check.same("none told a week", x.struck(0), NONE);
        for (int i = 0; i < 5; i++) {
            int[] n = {0, 0, 0, 0, 0};
            n[i] = 100000;
            Check.same("number " + i + ": 100000", Check.tape(x, 5, 5).strike(n[0], n[1], n[2], n[3], n[4]), 0);
        }
        Check.same("all 0", Check.tape(x, 5, 5).strike(0, 0, 0, 0, 0), 0);
    }

    /** So many weeks with a boys' and a papers' offer. */
    private static byte[] weeks(int n, int boys, int papers) {
        byte[] row = new byte[2 * n];
        for (int week = 0; week < n; week++) {
            row[2 * week] = (byte) boys;
            row[2 * week + 1] = (byte) papers;
        }
        return row;
    }

    private static void strikeOfOneToFiftyWeeks() {
        Check.promise(34, "the tape's pairs of bytes (1 to 50 weeks)");
        PaperBoys x = new PaperBoys();
        Check.same("no weeks", x.strike(0, 0, 0, 0, 0), NONE);
        for (int size : new int[] {1, 3, 99, 101, 102, 103, 420}) {
            Check.same(size + " bytes", Check.tape(x, new byte[size]).strike(0, 0, 0, 0, 0), NONE);
        }
        Check.same("1 week", Check.tape(x, weeks(1, 5, 5)).strike(0, 0, 0, 0, 0), 0);
        Check.same("50 weeks", Check.tape(x, weeks(50, 5, 5)).strike(0, 0, 0, 0, 0), 0);
        byte[] last = weeks(50, 5, 6);
        last[98] = 6;
        Check.same("the 50th week", Check.tape(x, last).strike(0, 0, 0, 0, 0), 49);
    }

    private static void strikeOffers() {
        Check.promise(34, "the papers' offer of the week is no more than the boys'");
        PaperBoys x = new PaperBoys();
        Check.same("one more", Check.tape(x, 5, 6).strike(0, 0, 0, 0, 0), NONE);
        Check.same("alike", Check.tape(x, 5, 5).strike(0, 0, 0, 0, 0), 0);
        Check.same("one less", Check.tape(x, 6, 5).strike(0, 0, 0, 0, 0), 0);
        Check.same("the price is the papers'", x.struck(1), 5);
        Check.same("how", x.struck(0), 0);
        Check.same("0 and 255", Check.tape(x, 0, 255).strike(0, 0, 0, 0, 0), NONE);
        Check.same("255 and 0", Check.tape(x, 255, 0).strike(0, 0, 0, 0, 0), 0);
        Check.same("price", x.struck(1), 0);
        Check.same("255 and 255", Check.tape(x, 255, 255).strike(0, 0, 0, 0, 0), 0);
        Check.same("price", x.struck(1), 255);
        Check.same("127 and 128", Check.tape(x, 127, 128, 128, 127).strike(0, 0, 0, 0, 0), 1);
    }

    private static void strikeFundBelowZero() {
        Check.promise(34, "the fund is below 0: the papers' price of the week");
        PaperBoys x = new PaperBoys();
        Check.same("at 0", Check.tape(x, 5, 6).strike(7, 7, 0, 0, 0), NONE);
        Check.same("at -1", Check.tape(x, 5, 6).strike(6, 7, 0, 0, 0), 0);
        Check.same("how", x.struck(0), 1);
        Check.same("price", x.struck(1), 6);
        Check.same("the third week", Check.tape(x, 5, 6, 5, 7, 5, 8).strike(20, 7, 0, 0, 0), 2);
        Check.same("price", x.struck(1), 8);
        Check.same("not in three weeks", Check.tape(x, 5, 6, 5, 7, 5, 8).strike(21, 7, 0, 0, 0), NONE);
    }

    private static void strikePurseBelowZero() {
        Check.promise(34, "the purse is below 0: the boys'");
        PaperBoys x = new PaperBoys();
        Check.same("at 0", Check.tape(x, 5, 6).strike(0, 0, 0, 7, 7), NONE);
        Check.same("at -1", Check.tape(x, 5, 6).strike(0, 0, 0, 6, 7), 0);
        Check.same("how", x.struck(0), 2);
        Check.same("price", x.struck(1), 5);
        Check.same("the third week", Check.tape(x, 5, 9, 6, 9, 7, 9).strike(0, 0, 0, 20, 7), 2);
        Check.same("price", x.struck(1), 7);
        Check.same("not in three weeks", Check.tape(x, 5, 9, 6, 9, 7, 9).strike(0, 0, 0, 21, 7), NONE);
    }

    private static void strikeGrowth() {
        Check.promise(34, "need is more by growth in each week behind");
        PaperBoys x = new PaperBoys();
        Check.same("none in the first week", Check.tape(x, 5, 6).strike(3, 3, 100, 0, 0), NONE);
        Check.same("3, 13: 16 of 16", Check.tape(x, 5, 6, 5, 6).strike(16, 3, 10, 0, 0), NONE);
        Check.same("3, 13: 16 of 15", Check.tape(x, 5, 6, 5, 6).strike(15, 3, 10, 0, 0), 1);
        Check.same("3, 13, 23: 39 of 39", Check.tape(x, weeks(3, 5, 6)).strike(39, 3, 10, 0, 0), NONE);
        Check.same("3, 13, 23: 39 of 38", Check.tape(x, weeks(3, 5, 6)).strike(38, 3, 10, 0, 0), 2);
        Check.same("loss does not grow", Check.tape(x, weeks(3, 5, 6)).strike(39, 3, 10, 9, 3), NONE);
        Check.same("0 to 49: 1225 of 1225", Check.tape(x, weeks(50, 5, 6)).strike(1225, 0, 1, 0, 0), NONE);
        Check.same("0 to 49: 1225 of 1224", Check.tape(x, weeks(50, 5, 6)).strike(1224, 0, 1, 0, 0), 49);
    }

    private static void strikeTheFirstCounts() {
        Check.promise(34, "A week ends the STRIKE, the first of these counts");
        PaperBoys x = new PaperBoys();
        Check.same("offers, fund and purse", Check.tape(x, 5, 5).strike(0, 1, 0, 0, 1), 0);
        Check.same("offers", x.struck(0), 0);
        Check.same("fund and purse", Check.tape(x, 5, 6).strike(0, 1, 0, 0, 1), 0);
        Check.same("the fund", x.struck(0), 1);
        Check.same("price", x.struck(1), 6);
        Check.same("the purse in the first week, offers in the next", Check.tape(x, 5, 6, 9, 6).strike(1, 1, 0, 0, 1), 0);
        Check.same("the purse", x.struck(0), 2);
        Check.same("offers in the first week", Check.tape(x, 9, 6, 5, 6).strike(0, 0, 1, 0, 0), 0);
        Check.same("offers", x.struck(0), 0);
    }

    private static void strikeNoWeekEndsIt() {
        Check.promise(34, "NONE: no week ends it");
        PaperBoys x = new PaperBoys();
        Check.same("50 weeks", Check.tape(x, weeks(50, 0, 255)).strike(0, 0, 0, 0, 0), NONE);
        Check.same("50 weeks", Check.tape(x, weeks(50, 0, 255)).strike(100000, 2000, 0, 100000, 2000), NONE);
        Check.same("a cent less in the purse", Check.tape(x, weeks(50, 0, 255)).strike(100000, 2000, 0, 99999, 2000), 49);
        Check.same("the purse", x.struck(0), 2);
        Check.same("a cent less in the fund", Check.tape(x, weeks(50, 0, 255)).strike(99999, 2000, 0, 100000, 2000), 49);
        Check.same("the fund", x.struck(0), 1);
    }

    private static void strikeAtItsGreatest() {
        Check.promise(34, "the greatest numbers");
        PaperBoys x = new PaperBoys();
        Check.same("need 100000 of 100000", Check.tape(x, weeks(50, 0, 255)).strike(100000, 100000, 100000, 100000, 0), 1);
        Check.same("growth alone", Check.tape(x, weeks(50, 0, 255)).strike(100000, 0, 100000, 100000, 0), 2);
        Check.same("loss 100000 of 100000", Check.tape(x, weeks(50, 0, 255)).strike(100000, 0, 0, 100000, 100000), 1);
        Check.same("the purse", x.struck(0), 2);
    }

    private static void strikeEmptiesTheTape() {
        Check.promise(34, "the tape is empty then");
        PaperBoys x = new PaperBoys();
        Check.same("ends", Check.tape(x, 5, 5).strike(0, 0, 0, 0, 0), 0);
        Check.same("count", x.count(5), 0);
        Check.same("no week ends it", Check.tape(x, 5, 6).strike(0, 0, 0, 0, 0), NONE);
        Check.same("count", x.count(5), 0);
        Check.same("not as told", Check.tape(x, 5, 5).strike(-1, 0, 0, 0, 0), NONE);
        Check.same("count", x.count(5), 0);
        Check.same("three bytes", Check.tape(x, 5, 5, 5).strike(0, 0, 0, 0, 0), NONE);
        Check.same("count", x.count(5), 0);
    }

    private static void struckAheadOfAny() {
        Check.promise(35, "NONE: ahead of any");
        PaperBoys x = new PaperBoys();
        Check.same("how", x.struck(0), NONE);
        Check.same("price", x.struck(1), NONE);
        Check.same("no week", Check.tape(x, 5, 6).strike(0, 0, 0, 0, 0), NONE);
        Check.same("not as told", Check.tape(x, 5, 5).strike(-1, 0, 0, 0, 0), NONE);
        Check.same("how", x.struck(0), NONE);
        Check.same("price", x.struck(1), NONE);
    }

    private static void struckOfTheLatest() {
        Check.promise(35, "Of the latest strike() that told a week");
        PaperBoys x = new PaperBoys();
        Check.same("the fund", Check.tape(x, 5, 6).strike(0, 1, 0, 0, 0), 0);
        Check.same("no week", Check.tape(x, 7, 8).strike(0, 0, 0, 0, 0), NONE);
        Check.same("not as told", Check.tape(x, 9, 9).strike(-1, 0, 0, 0, 0), NONE);
        Check.same("not as told", x.strike(0, 0, 0, 0, 0), NONE);
        Check.same("how stays", x.struck(0), 1);
        Check.same("price stays", x.struck(1), 6);
        Check.same("offers", Check.tape(x, 9, 3).strike(0, 0, 0, 0, 0), 0);
        Check.same("how", x.struck(0), 0);
        Check.same("price", x.struck(1), 3);
    }

    private static void struckAnotherWhat() {
        Check.promise(35, "NONE: another what");
        PaperBoys x = new PaperBoys();
        Check.same("offers", Check.tape(x, 9, 3).strike(0, 0, 0, 0, 0), 0);
        for (int what : new int[] {LEAST, -1, 2, GREATEST}) {
            Check.same("what " + what, x.struck(what), NONE);
        }
    }

    private static void countAnotherWhat() {
        Check.promise(36, "NONE for another what");
        PaperBoys x = new PaperBoys();
        for (int what : new int[] {LEAST, -1, 6, GREATEST}) {
            Check.same("what " + what, x.count(what), NONE);
        }
    }

    private static void countOfEach() {
        Check.promise(36, "0 TODAY, 1 BOYS, 2 BUNDLES, 3 TERMS, 4 COUNTS, 5 bytes of the tape");
        PaperBoys x = new PaperBoys();
        for (int i = 0; i < 5; i++) {
            Check.same("boy", x.boy(10, true, -1, 5), i);
        }
        for (int i = 0; i < 4; i++) {
            Check.same("bundle", x.bundle(0, 0, 0, 1, 5), i);
        }
        for (int i = 0; i < 3; i++) {
            Check.same("terms", Check.terms(x, 0, ""), 0);
        }
        Check.closeDays(x, 6);
        for (int i = 0; i < 2; i++) {
            Check.same("counted", x.counted(0, 0, 0, 0), i);
        }
        Check.tape(x, new byte[7]);
        int[] due = {6, 5, 4, 3, 2, 7};
        for (int what = 0; what < 6; what++) {
            Check.same("what " + what, x.count(what), due[what]);
            Check.same("asked for again", x.count(what), due[what]);
        }
    }
}
