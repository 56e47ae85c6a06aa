/**
 * The paragraphs of "Terms" in their order, one method for each: what a caller sees of it, reckoned by hand, so that a
 * paragraph that is broken as a whole is named as such. Its bounds one by one are in the Bounds..Tests.
 */
public final class ParagraphsTest {
    private static final int NONE = PaperBoys.NONE;

    private ParagraphsTest() {
    }

    public static void main(String[] args) {
        daysPapersCornersBoys();
        weatherHeadlineWantAsked();
        ownerAndMinutes();
        termsInForce();
        tokens();
        linesAndConds();
        faults();
        askedForABundle();
        aBundle();
        close();
        counts();
        best();
        tried();
        parted();
        truck();
        strike();
        aCallThatThrows();
        Check.end();
    }

    private static void daysPapersCornersBoys() {
        Check.paragraph("DAYS 0 .. 399 (of a WEEK 7); TODAY is DAY 0 at first. PAPERS 0 .. 3. CORNERS 0 .. 9. BOYS 0 .. 39");
        PaperBoys x = new PaperBoys();
        Check.same("TODAY", x.count(0), 0);
        Check.same("DAY 399", x.sky(399), 0);
        Check.same("DAY 400", x.sky(400), NONE);
        Check.yes("PAPER 3, CORNER 9", x.want(9, 3, 1));
        Check.no("PAPER 4", x.want(9, 4, 1));
        Check.no("CORNER 10", x.want(10, 3, 1));
        Check.same("AGE 5", x.boy(5, true, -1, 0), NONE);
        Check.same("AGE 19", x.boy(19, true, -1, 0), NONE);
        Check.same("BADGE -2", x.boy(6, true, -2, 0), NONE);
        Check.same("FISTS 100", x.boy(6, true, -1, 100), NONE);
        for (int b = 0; b < 40; b++) {
            Check.same("BOY", x.boy(6 + b % 13, b % 2 == 0, b - 1, 99 - b), b);
        }
        Check.same("a 41st", x.boy(6, true, -1, 0), NONE);
        Check.same("terms", Check.terms(x, 0, "cry 9 if week=0;cry 6 if week=6;"), 2);
        int[] cry = {9, 1, 1, 1, 1, 1, 6, 9, 1};
        for (int day = 0; day < cry.length; day++) {
            Check.same("bundle", x.bundle(day, 0, 0, 1, 5), day);
            Check.same("cry on DAY " + day, x.told(day, 1), cry[day]);
            Check.same("close", x.close(), 0);
        }
    }

    private static void weatherHeadlineWantAsked() {
        Check.paragraph("WEATHER is a row of numbers (0 to 3) by DAYS");
        PaperBoys x = new PaperBoys();
        Check.same("without a row", x.sky(7), 0);
        Check.yes("weather", Check.tape(x, 255, 1, 255, 2, 255, 255, 0).weather());
        int[] sky = {0, 1, 1, 2, 2, 2, 0, 3, 3};
        for (int day = 0; day < sky.length; day++) {
            Check.same("DAY " + day, x.sky(day), sky[day]);
        }
        Check.same("WANT at first", x.asked(3, 2, 2, 4), 0);
        Check.yes("want", x.want(3, 2, 77));
        Check.same("WET and LOUD at first", x.asked(3, 2, 2, 4), 77);
        Check.yes("table", x.table(0, 2, 45));
        Check.yes("table", x.table(1, 4, 137));
        Check.same("77 by 45 is 34, cut, by 137 is 46, cut", x.asked(3, 2, 2, 4), 46);
        Check.same("another WEATHER: 77 by 137 is 105, cut", x.asked(3, 2, 1, 4), 105);
        Check.same("another HEADLINE", x.asked(3, 2, 2, 5), 34);
        Check.yes("headline", x.headline(2, 3, 0));
        Check.yes("the last one told counts", x.headline(2, 3, 4));
        Check.same("boy", x.boy(10, true, -1, 5), 0);
        Check.closeDays(x, 3);
        Check.same("bundle", x.bundle(0, 2, 3, 100, 5), 0);
        Check.same("by the DAY's WEATHER 2 and HEADLINE 4", x.close(), 46);
        Check.same("bundle", x.bundle(0, 2, 3, 100, 5), 1);
        Check.same("WEATHER 2, no HEADLINE told", x.close(), 34);
    }

    private static void ownerAndMinutes() {
        Check.paragraph("OWNER of a CORNER: a BOY (NONE at first). MINUTES from a CORNER to another one");
        PaperBoys x = new PaperBoys();
        Check.same("boy", x.boy(10, true, -1, 5), 0);
        Check.same("bundle", x.bundle(0, 0, 4, 1, 5), 0);
        Check.same("terms", Check.terms(x, 0, "cry 5 if owner;"), 1);
        Check.same("NONE at first", x.told(0, 1), 1);
        Check.yes("owner", x.owner(4, 0));
        Check.same("OWNER", x.told(0, 1), 5);
        Check.yes("nobody", x.owner(4, -1));
        Check.same("nobody", x.told(0, 1), 1);
        Check.same("10 at first", Check.truck(x, 4, 100), 10);
        Check.yes("minutes", x.minutes(4, 0, 200));
        Check.same("either way", Check.truck(x, 4, 200), 200);
        Check.yes("minutes", x.minutes(7, 8, 1));
        Check.same("from 7 to 8", Check.truck(x, 7, 10, 8, 100), 11);
        Check.same("from 8 to 7", Check.truck(x, 7, 100, 8, 10), 11);
        Check.no("201", x.minutes(4, 0, 201));
        Check.no("0", x.minutes(4, 0, 0));
        Check.no("to itself", x.minutes(4, 4, 1));
    }

    private static void termsInForce() {
        Check.paragraph("==== 2. TERMS are texts of at most 300 bytes, 10 at most, each in force from TODAY or a later DAY on");
        PaperBoys x = new PaperBoys();
        Check.same("boy", x.boy(10, true, -1, 5), 0);
        Check.same("from DAY 3 on", Check.terms(x, 3, "price 33;"), 1);
        Check.same("from DAY 1 on", Check.terms(x, 1, "price 11;"), 1);
        Check.same("from DAY 1 on, told last", Check.terms(x, 1, "price 12;"), 1);
        int[] price = {60, 12, 12, 33, 33};
        for (int day = 0; day < price.length; day++) {
            Check.same("bundle", x.bundle(0, 0, 0, 1, 5), day);
            Check.same("price on DAY " + day, x.told(day, 0), price[day]);
            Check.same("close", x.close(), 0);
        }
        Check.same("a DAY that is gone", Check.terms(x, 4, "price 1;"), -1000);
        for (int i = 3; i < 10; i++) {
            Check.same("TERMS", Check.terms(x, 5, ""), 0);
        }
        Check.same("an eleventh", Check.terms(x, 5, ""), -1000);
        Check.same("TERMS", x.count(3), 10);
        Check.same("300 bytes", Check.tried(new PaperBoys(), "sell;" + " ".repeat(295)), 0);
        Check.same("301 bytes", Check.tried(new PaperBoys(), "sell;" + " ".repeat(296)), -1000000300);
    }

    private static void fault(String text, int place, int kind) {
        PaperBoys x = new PaperBoys();
        Check.same("terms of '" + text + "'", Check.terms(x, 0, text), -1 - place);
        Check.same("fault of '" + text + "'", x.fault(), kind);
    }

    private static void lines(String text, int lines) {
        PaperBoys x = new PaperBoys();
        Check.same("terms of '" + text + "'", Check.terms(x, 0, text), lines);
        Check.same("fault of '" + text + "'", x.fault(), 0);
    }

    private static void tokens() {
        Check.paragraph("TOKENS, with blanks (32, 10) between them or not");
        lines("price 0060;cry 1 if(age<10)and not(age=7)or hour>9;", 2);
        lines(" \n price\n60\n;\n ", 1);
        fault("price\t60;", 5, 1);
        fault("price60;", 0, 1);
        fault("price 60if school;", 6, 1);
        fault("price 60 if age<10and school;", 16, 1);
        fault("price 00060;", 6, 1);
        fault("price 60, cry 1;", 8, 1);
        fault("abcdefghi;", 0, 1);
    }

    private static void linesAndConds() {
        Check.paragraph("TEXT: { LINE }, 16 at most. LINE: 'price' NUMBER [ 'if' COND ] ; | ..");
        lines("", 0);
        lines("price 1;cry 1;back 1;most 1;sell;sell not;owe 1;", 7);
        lines("price 1 if school;cry 1 if badge;back 1 if owner;most 1 if age<1;sell if hour=1;sell not if week>1;", 6);
        lines("sell if day<1 or paper<1 and corner<1 or copies<1;sell if not (weather<1 or not fists<1);", 2);
        fault("owe 1 if school;", 6, 1);
        fault("sell 1;", 5, 1);
        fault("not sell;", 0, 1);
        fault("price 1 school;", 8, 1);
        fault("price 1 if school and or badge;", 22, 1);
        fault("price 1 if ();", 12, 1);
        fault("price 1 if school<1;", 17, 1);
        fault("price 1 if age 5;", 15, 1);
        fault("price 1 if 5<age;", 11, 1);
    }

    private static void faults() {
        Check.paragraph("FAULTS, the first along the text, of one TOKEN the least");
        fault("price 1", 7, 1);
        fault("price 1001;x", 6, 2);
        lines("price 1000 if age<9999;", 1);
        fault("owe 1;sell;owe 2;", 11, 3);
        fault("sell;".repeat(17), 80, 3);
        fault("sell;".repeat(16) + "if", 80, 1);
        fault("sell if " + "(".repeat(11) + "school" + ")".repeat(11) + ";", 18, 4);
        fault("sell if " + "not ".repeat(10) + ")", 48, 1);
        String ten = "not ".repeat(9) + "school";
        String fifty = "sell if " + (ten + " or ").repeat(4) + ten;
        lines(fifty + ";", 1);
        fault(fifty + " or school;", fifty.length() + 4, 4);
        fault(" ".repeat(299) + "sells", 299, 1);
        fault(" ".repeat(299) + "sell;", 300, 1);
    }

    private static void askedForABundle() {
        Check.paragraph("Asked for a BUNDLE: of its BOY AGE, SCHOOL, FISTS, BADGE (not behind its DAY)");
        PaperBoys x = new PaperBoys();
        Check.same("boy", x.boy(11, false, 0, 42), 0);
        Check.same("bundle", x.bundle(0, 2, 7, 25, 13), 0);
        int[] without = {60, 1, 0, 200, 1, 100};
        for (int what = 0; what < 6; what++) {
            Check.same("without any", x.told(0, what), without[what]);
            Check.same("why", x.why(), NONE);
        }
        Check.same("terms", Check.terms(x, 0, "price 1 if school;price 2 if age=11 and fists=42 and badge;back 500;"
                + "cry 3 if hour=13 and day=0 and week=0;most 44 if paper=2 and corner=7 and copies=25 and weather=0;"
                + "cry 4;sell not if owner;owe 55;"), 8);
        int[] told = {2, 3, 100, 44, 1, 55};
        int[] why = {1, 3, 2, 4, NONE, 7};
        for (int what = 0; what < 6; what++) {
            Check.same("what " + what, x.told(0, what), told[what]);
            Check.same("why " + what, x.why(), why[what]);
        }
        Check.yes("owner", x.owner(7, 0));
        Check.same("OWNER as now", x.told(0, 4), 0);
        Check.same("why", x.why(), 6);
        Check.same("close", x.close(), 0);
        Check.same("its DAY stays", x.told(0, 1), 3);
        Check.same("bundle", x.bundle(0, 2, 7, 25, 13), 1);
        Check.same("the BADGE's DAY is gone", x.told(1, 0), 60);
        Check.same("the second cry", x.told(1, 1), 4);
    }

    private static void aBundle() {
        Check.paragraph("==== 3. A BUNDLE (200): on TODAY a BOY has COPIES (1 to 1000) of a PAPER for a CORNER at an HOUR");
        PaperBoys x = new PaperBoys();
        Check.same("boy", x.boy(11, false, 0, 42), 0);
        Check.same("terms", Check.terms(x, 0, "price 33;most 150;owe 60;"), 3);
        Check.same("more than 'most'", x.bundle(0, 0, 0, 151, 5), NONE);
        Check.same("HOUR 21", x.bundle(0, 0, 0, 150, 21), NONE);
        Check.same("150 by 33 is 49.5", x.bundle(0, 0, 0, 150, 20), 0);
        Check.same("COST", x.of(0, 4), 50);
        Check.same("COIN", x.coin(0), -50);
        Check.same("31 by 33 is 10.23", x.bundle(0, 0, 0, 31, 4), NONE);
        Check.same("30 by 33 is 9.9", x.bundle(0, 0, 0, 30, 4), 1);
        Check.same("COIN", x.coin(0), -60);
        Check.same("nothing more", x.bundle(0, 0, 0, 1, 4), NONE);
        Check.same("terms", Check.terms(x, 0, "price 0;"), 1);
        for (int k = 2; k < 200; k++) {
            Check.same("bundle", x.bundle(0, 0, 0, 1, 4), k);
        }
        Check.same("there are 200", x.bundle(0, 0, 0, 1, 4), NONE);
    }

    private static void close() {
        Check.paragraph("CLOSE: the DAY's BUNDLES, CORNER by CORNER, PAPER by PAPER, are cried");
        PaperBoys x = new PaperBoys();
        Check.same("weak", x.boy(11, false, 0, 10), 0);
        Check.same("mighty", x.boy(12, false, 0, 20), 1);
        Check.same("OWNER", x.boy(13, false, 0, 0), 2);
        Check.same("early", x.boy(14, false, 0, 0), 3);
        Check.same("may not", x.boy(15, false, 0, 99), 4);
        Check.yes("owner", x.owner(1, 2));
        Check.yes("want", x.want(1, 0, 100));
        Check.yes("want", x.want(1, 1, 5));
        Check.same("terms", Check.terms(x, 0, "price 70;cry 2;back 55;sell not if age=15;"), 4);
        int[] boys = {0, 1, 2, 3, 4, 1, 0};
        int[] copies = {40, 31, 30, 20, 10, 30, 9};
        for (int k = 0; k < boys.length; k++) {
            Check.same("bundle", x.bundle(boys[k], k == 6 ? 1 : 0, 1, copies[k], k == 3 ? 5 : 6), k);
        }
        Check.same("100 and 5", x.close(), 105);
        int[] sold = {0, 31, 30, 20, 0, 19, 5};
        int[] back = {22, 0, 0, 0, 5, 6, 2};
        for (int k = 0; k < boys.length; k++) {
            Check.same("SOLD of " + k, x.of(k, 1), sold[k]);
            Check.same("BACK of " + k, x.of(k, 2), back[k]);
            Check.same("EATEN of " + k, x.of(k, 3), copies[k] - sold[k] - back[k]);
        }
        Check.same("10 and 15 and 1 less 28 and 7", x.coin(0), -9);
        Check.same("62 and 38 and 4 less 22 and 21", x.coin(1), 61);
        Check.same("60 less 21", x.coin(2), 39);
        Check.same("40 less 14", x.coin(3), 26);
        Check.same("3 less 7", x.coin(4), -4);
        Check.same("the next DAY", x.count(0), 1);
        Check.closeDays(x, 399);
        Check.same("TODAY is 400", x.count(0), 400);
        Check.same("nothing can be bought", x.bundle(2, 0, 1, 1, 5), NONE);
        Check.same("nothing can be closed", x.close(), NONE);
    }

    private static void counts() {
        Check.paragraph("COUNTS (60), told on TODAY of a DAY that is closed");
        PaperBoys x = new PaperBoys();
        Check.same("boy", x.boy(11, false, 0, 10), 0);
        Check.same("terms", Check.terms(x, 0, "price 0;back 100;"), 2);
        Check.same("bundle", x.bundle(0, 1, 2, 30, 5), 0);
        Check.same("bundle", x.bundle(0, 1, 2, 20, 5), 1);
        Check.same("bundle", x.bundle(0, 0, 2, 7, 5), 2);
        Check.same("not closed", x.counted(1, 2, 0, 50), NONE);
        Check.same("close", x.close(), 0);
        Check.same("bundle", x.bundle(0, 3, 9, 4, 5), 3);
        Check.same("of 50, on DAY 1", x.counted(1, 2, 0, 51), 0);
        Check.same("of 7, on DAY 1", x.counted(0, 2, 0, 9), 1);
        Check.same("close", x.close(), 0);
        Check.same("of 50, on DAY 2", x.counted(1, 2, 0, 45), 2);
        Check.same("of 0, on DAY 2", x.counted(0, 9, 1, 1), 3);
        int[] wrong = {0, 2, 2, 2};
        int[] missing = {57, 4, 5 + 4, 5 + 4};
        for (int t = 0; t < 4; t++) {
            Check.same("FALSE AS OF " + t, x.falseCounts(t), wrong[t]);
            Check.same("SHORT AS OF " + t, x.shortOf(t), missing[t]);
        }
        for (int i = 4; i < 60; i++) {
            Check.same("counted", x.counted(0, 0, 0, 0), i);
        }
        Check.same("there are 60", x.counted(0, 0, 0, 0), NONE);
    }

    private static void best() {
        Check.paragraph("==== 4. BEST bundle for a CORNER and PAPER on TODAY by chances");
        PaperBoys x = new PaperBoys();
        Check.yes("want", x.want(5, 3, 100));
        Check.yes("table", x.table(0, 1, 40));
        Check.yes("table", x.table(1, 5, 200));
        // ASKED 100 (share 6), 200 (share 3), 40 (share 2) and 80 (share 1).
        int[] shares = {3, 1, 0, 0, 2, 0, 0, 0, 0, 1};
        // Another one costs 1 and brings 2 if it is sold: it pays while more than half of the 12 shares ask for it.
        Check.same("100", Check.tape(x, shares).best(5, 3, 100, 2, 0), 100);
        Check.same("100 in 9 shares, 60 in 1, -20 in 2", x.expected(), 920);
        // Half of what is not sold comes back: then it pays while a third or more of the shares asks for it, but for cuts.
        Check.same("100", Check.tape(x, shares).best(5, 3, 100, 2, 50), 100);
        Check.same("100 in 9, 70 in 1, 10 in 2", x.expected(), 990);
        Check.same("nothing pays", Check.tape(x, shares).best(5, 3, 100, 1, 0), 0);
        Check.same("nothing", x.expected(), 0);
        Check.same("all that may be asked for", Check.tape(x, shares).best(5, 3, 0, 1, 0), 200);
        Check.same("600, 600, 80, 80", x.expected(), 1360);
    }

    private static void tried() {
        Check.paragraph("TRIED: all closed DAYS gone through with one text as TERMS for all of them");
        PaperBoys x = new PaperBoys();
        Check.same("boy", x.boy(11, true, 0, 10), 0);
        Check.same("boy", x.boy(12, false, 0, 20), 1);
        Check.yes("want", x.want(1, 0, 50));
        Check.same("bundle", x.bundle(0, 0, 1, 40, 5), 0);
        Check.same("bundle", x.bundle(1, 0, 1, 30, 5), 1);
        Check.same("close", x.close(), 50);
        Check.same("bundle", x.bundle(1, 0, 1, 10, 5), 2);
        Check.same("close", x.close(), 10);
        Check.same("bundle of a DAY that is open", x.bundle(1, 0, 1, 10, 5), 3);
        Check.same("60 less 24, 18 and 6", Check.tried(x, ""), 12);
        Check.same("20 of BOY 0", x.triedEaten(), 20);
        Check.same("180 less 4, 3 and 1, and 1 for 10 BACK", Check.tried(x, "price 10;cry 3;back 50;most 1;owe 0;"), 173);
        Check.same("10", x.triedEaten(), 10);
        Check.same("BOY 1 alone: 40 less 48", Check.tried(x, "sell not if school;"), -8);
        Check.same("all of BOY 0", x.triedEaten(), 40);
        Check.same("20 of BOY 0 come BACK", Check.tried(x, "back 100 if school;"), 24);
        Check.same("none", x.triedEaten(), 0);
        Check.yes("OWNERS as they are now", x.owner(1, 0));
        Check.same("20 of BOY 1 don't", Check.tried(x, "back 100 if school;"), 12);
        Check.same("20", x.triedEaten(), 20);
        Check.yes("WANT as it is now", x.want(1, 0, 5));
        Check.same("5 and 5 less 48", Check.tried(x, ""), -38);
        Check.same("a FAULT", Check.tried(x, "price;"), -1000000005);
        Check.same("without a FAULT", x.triedEaten(), 70);
    }

    private static void parted() {
        Check.paragraph("PARTED: BOYS and CORNERS (as many of each, 1 to 8)");
        // BOY 0 gains 9 5 1, BOY 1 9 8 1, BOY 2 9 7 0; might at CORNER 0: 1 2 3, at CORNER 1: 5 5 9, at CORNER 2: 0.
        int[] row = {9, 5, 1, 9, 8, 1, 9, 7, 0, 1, 5, 0, 2, 5, 0, 3, 9, 0};
        PaperBoys x = new PaperBoys();
        Check.same("BOY 2 keeps 0, BOY 0 keeps 1 of like mights", Check.tape(x, row).parted(3, 0, 0), 15);
        int[] listed = {1, 2, 0};
        for (int k = 0; k < 3; k++) {
            Check.same("LISTED, BOY " + k, x.partedAt(k), listed[k]);
        }
        Check.same("PEACE", x.peace(1), 1);
        Check.same("BOY 2 at 0 is no fight: 1, 8, 9", Check.tape(x, row).parted(3, 1, 1), 18);
        int[] best = {2, 1, 0};
        for (int k = 0; k < 3; k++) {
            Check.same("BEST, BOY " + k, x.partedAt(k), best[k]);
        }
        // With two of like might nobody would fight: 5 and 7 are as much as 6 and 6, and BOY 0 has the lesser CORNER then.
        Check.same("the first of like sums", Check.tape(x, 5, 6, 6, 7, 1, 1, 1, 1).parted(2, 1, 1), 12);
        Check.same("BOY 0", x.partedAt(0), 0);
        // BOY 1 would gain 6 more at CORNER 1, and has more might there than BOY 0.
        Check.same("PEACE for 7", Check.tape(x, 1, 9, 0, 6, 5, 5, 5, 6).parted(2, 1, 7), 9);
        Check.same("PEACE for 7", x.peace(7), 1);
        Check.same("none for 6", x.peace(6), 0);
    }

    private static void truck() {
        Check.paragraph("A TRUCK leaves CORNER 0 at MINUTE 0 and goes to some other CORNERS, each once, by MINUTES");
        PaperBoys x = new PaperBoys();
        Check.yes("minutes", x.minutes(0, 2, 3));
        Check.yes("minutes", x.minutes(2, 6, 4));
        Check.yes("minutes", x.minutes(6, 9, 5));
        Check.same("2, 6, 9", Check.truck(x, 2, 500, 6, 500, 9, 500), 12);
        int[] way = {2, 6, 9};
        for (int k = 0; k < 3; k++) {
            Check.same("stop " + k, x.truckAt(k), way[k]);
        }
        Check.same("9 ahead: 9, 6, 2", Check.truck(x, 2, 500, 6, 500, 9, 10), 19);
        Check.same("stop 1", x.truckAt(1), 6);
        Check.same("9 can be come to by 11 only as the first", Check.truck(x, 2, 3, 9, 11, 6, 500), NONE);
        Check.same("the way stays", x.truckAt(0), 9);
        Check.same("of like ones the first", Check.truck(x, 4, 500, 3, 500, 1, 500), 30);
        int[] first = {1, 3, 4};
        for (int k = 0; k < 3; k++) {
            Check.same("stop " + k, x.truckAt(k), first[k]);
        }
    }

    private static void strike() {
        Check.paragraph("A STRIKE, by weeks: in each the boys' fund loses need first, the papers' purse loss");
        PaperBoys x = new PaperBoys();
        // The fund is 100, 80, 50, 10, -40; the purse is 1000 and more.
        int[] far = {20, 90, 30, 80, 40, 70, 41, 69, 42, 68};
        Check.same("the fund", Check.tape(x, far).strike(110, 10, 10, 5000, 1), 4);
        Check.same("how", x.struck(0), 1);
        Check.same("the papers' price of the week", x.struck(1), 68);
        Check.same("a fund of 0 is not below 0", Check.tape(x, far).strike(150, 10, 10, 5000, 1), NONE);
        Check.same("the purse", Check.tape(x, far).strike(150, 10, 10, 29, 10), 2);
        Check.same("how", x.struck(0), 2);
        Check.same("the boys' price of the week", x.struck(1), 40);
        Check.same("both: the fund counts", Check.tape(x, far).strike(0, 1, 0, 0, 1), 0);
        Check.same("how", x.struck(0), 1);
        Check.same("offers count ahead of both", Check.tape(x, 60, 55).strike(0, 1, 0, 0, 1), 0);
        Check.same("how", x.struck(0), 0);
        Check.same("the price is the papers'", x.struck(1), 55);
    }

    private static void aCallThatThrows() {
        Check.paragraph("A call that throws changes nothing.");
        PaperBoys x = new PaperBoys();
        Check.same("boy", x.boy(11, true, 0, 10), 0);
        Check.same("bundle", x.bundle(0, 0, 1, 40, 5), 0);
        Check.same("terms", Check.terms(x, 0, "cry 2;"), 1);
        Check.same("told", x.told(0, 1), 2);
        Check.same("feed", x.feed(0, 0, 0, 0, 0), 20);
        Check.noCoin(x, 1);
        Check.noCoin(x, -1);
        Check.noOf(x, 1, 0);
        Check.noOf(x, 0, 5);
        Check.noOf(x, 0, -1);
        int[] counts = {0, 1, 1, 1, 0, 20};
        for (int what = 0; what < counts.length; what++) {
            Check.same("count", x.count(what), counts[what]);
        }
        Check.same("why", x.why(), 0);
        Check.same("coin", x.coin(0), -24);
    }
}
