/** The promises one by one: ordinary inputs, the edges that the document names, and wrong inputs. */
public final class PromisesTest {
    private static final int NONE = PaperBoys.NONE;
    private static final int[] WRONG = {Integer.MIN_VALUE, -2, 1000000, Integer.MAX_VALUE};

    private PromisesTest() {
    }

    public static void main(String[] args) {
        promise1NewObject();
        promise2Feed();
        promise3End();
        promise4Boy();
        promise5Badge();
        promise6Owner();
        promise7Weather();
        promise8Sky();
        promise9Headline();
        promise10Table();
        promise11Want();
        promise12Asked();
        promise13Minutes();
        promise14Terms();
        promise14Faults();
        promise14LongTexts();
        promise15Fault();
        promise16Bundle();
        promise17Told();
        promise17Facts();
        promise17Joins();
        promise18Why();
        promise19Close();
        promise19Order();
        promise19LastDay();
        promise20Of();
        promise21Coin();
        promise22Counted();
        promise23FalseCounts();
        promise24ShortOf();
        promise25Best();
        promise26Expected();
        promise27Tried();
        promise28TriedEaten();
        promise29Parted();
        promise30PartedAt();
        promise31Peace();
        promise32Truck();
        promise33TruckAt();
        promise34Strike();
        promise35Struck();
        promise36Count();
        Check.end();
    }

    private static PaperBoys city() {
        PaperBoys x = new PaperBoys();
        Check.same("boy", x.boy(10, true, 5, 20), 0);
        Check.same("boy", x.boy(14, false, -1, 30), 1);
        Check.same("boy", x.boy(18, false, 399, 20), 2);
        Check.yes("want", x.want(1, 0, 100));
        return x;
    }

    private static int terms(PaperBoys x, int from, String text) {
        return Check.tape(x, text).terms(from);
    }

    private static void faultAt(String text, int place, int kind) {
        PaperBoys x = new PaperBoys();
        Check.same("terms of '" + text + "'", terms(x, 0, text), -1 - place);
        Check.same("fault of '" + text + "'", x.fault(), kind);
        Check.same("no TERMS of a FAULT", x.count(3), 0);
        Check.same("tried with '" + text + "'", Check.tape(x, text).tried(), -1000000000 - place);
        Check.same("fault of '" + text + "'", x.fault(), kind);
    }

    private static void linesOf(String text, int lines) {
        PaperBoys x = new PaperBoys();
        Check.same("terms of '" + text + "'", terms(x, 0, text), lines);
        Check.same("fault of '" + text + "'", x.fault(), 0);
        Check.same("TERMS", x.count(3), 1);
    }

    private static void promise1NewObject() {
        PaperBoys x = new PaperBoys();
        for (int what = 0; what < 6; what++) {
            Check.same("count of a new one", x.count(what), 0);
        }
        Check.same("NONE", PaperBoys.NONE, -1);
        Check.same("asked", x.asked(9, 3, 3, 5), 0);
        Check.same("sky", x.sky(0) + x.sky(399), 0);
        Check.same("fault", x.fault(), 0);
    }

    private static void promise2Feed() {
        PaperBoys x = new PaperBoys();
        for (int i = 1; i <= 21; i++) {
            Check.same("feed", x.feed(0, 0, 0, 0, 0), 20 * i);
        }
        Check.same("feed beyond 420", x.feed(0, 0, 0, 0, 0), NONE);
        Check.same("none come", x.count(5), 420);
        Check.yes("end", x.end(401));
        Check.same("feed beyond 420", x.feed(0, 0, 0, 0, 0), NONE);
        Check.same("none come", x.count(5), 401);
        Check.yes("end", x.end(400));
        Check.same("feed", x.feed(0, 0, 0, 0, 0), 420);
        Check.yes("end", x.end(0));
        Check.same("feed", x.feed(0x00010203, 0x03020100, 0xFFFFFFFF, 0x01FF02FF, 0x03FF00FF), 20);
        Check.yes("weather", x.weather());
        int[] due = {0, 1, 2, 3, 3, 2, 1, 0, 0, 0, 0, 0, 1, 1, 2, 2, 3, 3, 0, 0, 3};
        for (int day = 0; day < due.length; day++) {
            Check.same("the highest byte first: " + day, x.sky(day), due[day]);
        }
    }

    private static void promise3End() {
        PaperBoys x = new PaperBoys();
        Check.no("end", x.end(1));
        Check.yes("end", x.end(0));
        Check.same("feed", x.feed(1, 2, 3, 4, 5), 20);
        Check.no("end", x.end(21));
        Check.no("end", x.end(-1));
        Check.same("stays", x.count(5), 20);
        Check.yes("end", x.end(20));
        Check.yes("end", x.end(7));
        Check.same("bytes", x.count(5), 7);
        Check.same("feed behind", x.feed(0x01010101, 0, 0, 0, 0), 27);
        Check.yes("end", x.end(8));
        Check.no("the fourth byte is 1, the eighth 1, none is above 3", !x.weather());
        Check.same("sky", x.sky(3), 1);
        Check.same("sky", x.sky(6), 0);
        Check.same("sky", x.sky(7), 1);
        for (int n : WRONG) {
            Check.no("end", x.end(n));
        }
    }

    private static void promise4Boy() {
        PaperBoys x = new PaperBoys();
        Check.same("boy", x.boy(5, true, -1, 0), NONE);
        Check.same("boy", x.boy(19, true, -1, 0), NONE);
        Check.same("boy", x.boy(6, true, -2, 0), NONE);
        Check.same("boy", x.boy(6, true, 400, 0), NONE);
        Check.same("boy", x.boy(6, true, -1, -1), NONE);
        Check.same("boy", x.boy(6, true, -1, 100), NONE);
        for (int n : WRONG) {
            Check.same("boy", x.boy(n, true, 0, 0), NONE);
            Check.same("boy", x.boy(6, true, n, 0), NONE);
            Check.same("boy", x.boy(6, true, 0, n), NONE);
        }
        Check.same("boy", x.boy(6, true, -1, 0), 0);
        Check.same("boy", x.boy(18, false, 399, 99), 1);
        for (int i = 2; i < 40; i++) {
            Check.same("boy", x.boy(10, true, 0, 5), i);
        }
        Check.same("boy", x.boy(10, true, 0, 5), NONE);
        Check.same("count", x.count(1), 40);
    }

    private static void promise5Badge() {
        PaperBoys x = city();
        Check.no("badge", x.badge(3, 5));
        Check.no("badge", x.badge(-1, 5));
        Check.no("badge", x.badge(0, -2));
        Check.no("badge", x.badge(0, 400));
        Check.same("terms", terms(x, 0, "price 11 if badge;price 22;"), 2);
        Check.same("bundle", x.bundle(1, 0, 1, 1, 5), 0);
        Check.same("none", x.told(0, 0), 22);
        Check.yes("badge", x.badge(1, 0));
        Check.same("up to its DAY", x.told(0, 0), 11);
        Check.same("close", x.close(), 1);
        Check.same("bundle", x.bundle(1, 0, 1, 1, 5), 1);
        Check.same("behind it", x.told(1, 0), 22);
        Check.yes("badge", x.badge(1, 399));
        Check.same("another", x.told(1, 0), 11);
        Check.yes("badge", x.badge(1, -1));
        Check.same("none", x.told(0, 0), 22);
        for (int n : WRONG) {
            Check.no("badge", x.badge(n, 0));
            Check.no("badge", x.badge(0, n));
        }
    }

    private static void promise6Owner() {
        PaperBoys x = city();
        Check.no("owner", x.owner(-1, 0));
        Check.no("owner", x.owner(10, 0));
        Check.no("owner", x.owner(1, 3));
        Check.no("owner", x.owner(1, -2));
        Check.same("terms", terms(x, 0, "price 11 if owner;price 22;"), 2);
        Check.same("bundle", x.bundle(0, 0, 1, 1, 5), 0);
        Check.same("nobody's", x.told(0, 0), 22);
        Check.yes("owner", x.owner(1, 0));
        Check.same("as now", x.told(0, 0), 11);
        Check.yes("owner", x.owner(1, 2));
        Check.same("another's", x.told(0, 0), 22);
        Check.yes("owner", x.owner(1, 0));
        Check.yes("owner", x.owner(1, -1));
        Check.same("nobody's", x.told(0, 0), 22);
        Check.yes("another corner", x.owner(2, 0));
        Check.same("not here", x.told(0, 0), 22);
        for (int n : WRONG) {
            Check.no("owner", x.owner(n, 0));
            Check.no("owner", x.owner(0, n));
        }
    }

    private static void promise7Weather() {
        PaperBoys x = new PaperBoys();
        Check.no("an empty tape", x.weather());
        Check.yes("weather", Check.tape(x, 1, 2, 255).weather());
        Check.same("empty then", x.count(5), 0);
        Check.no("4 is none", Check.tape(x, 0, 4).weather());
        Check.same("empty then, too", x.count(5), 0);
        Check.no("254 is none", Check.tape(x, 254).weather());
        Check.same("it stays", x.sky(0), 1);
        Check.same("it stays", x.sky(2), 2);
        Check.same("it stays", x.sky(3), 3);
        byte[] row = new byte[400];
        row[399] = 2;
        Check.yes("400", Check.tape(x, row).weather());
        Check.same("the last one", x.sky(399), 2);
        Check.no("401", Check.tape(x, new byte[401]).weather());
        Check.same("it stays", x.sky(399), 2);
        Check.yes("another row", Check.tape(x, 255, 255, 1).weather());
        Check.same("DAY 0", x.sky(0), 0);
        Check.same("as ahead", x.sky(1), 0);
        Check.same("told", x.sky(2), 1);
        Check.same("behind its end", x.sky(3), 3);
        Check.same("behind its end", x.sky(399), 3);
    }

    private static void promise8Sky() {
        PaperBoys x = new PaperBoys();
        Check.same("without a row", x.sky(0), 0);
        Check.same("without a row", x.sky(399), 0);
        Check.same("no such DAY", x.sky(-1), NONE);
        Check.same("no such DAY", x.sky(400), NONE);
        Check.yes("weather", Check.tape(x, 3, 255, 255, 255, 1).weather());
        Check.same("a chain", x.sky(3), 3);
        Check.same("told", x.sky(4), 1);
        for (int n : WRONG) {
            Check.same("sky", x.sky(n), NONE);
        }
    }

    private static void promise9Headline() {
        PaperBoys x = city();
        Check.yes("loud", x.table(1, 5, 50));
        Check.yes("loud", x.table(1, 2, 20));
        Check.no("headline", x.headline(4, 0, 1));
        Check.no("headline", x.headline(-1, 0, 1));
        Check.no("headline", x.headline(0, -1, 1));
        Check.no("headline", x.headline(0, 400, 1));
        Check.no("headline", x.headline(0, 0, 6));
        Check.no("headline", x.headline(0, 0, -1));
        Check.yes("headline", x.headline(0, 0, 5));
        Check.yes("the last one counts", x.headline(0, 0, 2));
        Check.yes("another paper", x.headline(1, 0, 5));
        Check.yes("another day", x.headline(0, 399, 5));
        Check.same("bundle", x.bundle(0, 0, 1, 100, 5), 0);
        Check.same("close", x.close(), 20);
        Check.no("ahead of TODAY", x.headline(0, 0, 1));
        Check.same("bundle", x.bundle(1, 0, 1, 100, 5), 1);
        Check.same("0, if none is told", x.close(), 100);
        for (int n : WRONG) {
            Check.no("headline", x.headline(n, 5, 1));
            Check.no("headline", x.headline(0, n, 1));
            Check.no("headline", x.headline(0, 5, n));
        }
    }

    private static void promise10Table() {
        PaperBoys x = city();
        Check.no("table", x.table(-1, 0, 100));
        Check.no("table", x.table(2, 0, 100));
        Check.no("table", x.table(0, -1, 100));
        Check.no("table", x.table(0, 4, 100));
        Check.no("table", x.table(1, -1, 100));
        Check.no("table", x.table(1, 6, 100));
        Check.no("table", x.table(0, 0, -1));
        Check.no("table", x.table(1, 0, 301));
        Check.same("100 at first", x.asked(1, 0, 3, 5), 100);
        Check.yes("table", x.table(0, 3, 300));
        Check.yes("table", x.table(1, 5, 300));
        Check.same("three times three", x.asked(1, 0, 3, 5), 900);
        Check.yes("table", x.table(0, 3, 0));
        Check.same("none", x.asked(1, 0, 3, 5), 0);
        Check.same("others stay", x.asked(1, 0, 2, 4), 100);
        for (int n : WRONG) {
            Check.no("table", x.table(n, 0, 0));
            Check.no("table", x.table(0, n, 0));
            Check.no("table", x.table(1, n, 0));
            Check.no("table", x.table(0, 0, n));
        }
    }

    private static void promise11Want() {
        PaperBoys x = new PaperBoys();
        Check.no("want", x.want(-1, 0, 5));
        Check.no("want", x.want(10, 0, 5));
        Check.no("want", x.want(0, -1, 5));
        Check.no("want", x.want(0, 4, 5));
        Check.no("want", x.want(0, 0, -1));
        Check.no("want", x.want(0, 0, 401));
        Check.yes("want", x.want(9, 3, 400));
        Check.same("asked", x.asked(9, 3, 0, 0), 400);
        Check.same("another", x.asked(9, 2, 0, 0), 0);
        Check.yes("want", x.want(9, 3, 0));
        Check.same("asked", x.asked(9, 3, 0, 0), 0);
        for (int n : WRONG) {
            Check.no("want", x.want(n, 0, 0));
            Check.no("want", x.want(0, n, 0));
            Check.no("want", x.want(0, 0, n));
        }
    }

    private static void promise12Asked() {
        PaperBoys x = new PaperBoys();
        Check.yes("want", x.want(2, 1, 7));
        Check.yes("wet", x.table(0, 1, 50));
        Check.yes("loud", x.table(1, 3, 50));
        Check.same("7 by half, cut, by half, cut", x.asked(2, 1, 1, 3), 1);
        Check.yes("loud", x.table(1, 3, 300));
        Check.same("cut first", x.asked(2, 1, 1, 3), 9);
        Check.same("no corner", x.asked(10, 1, 1, 3), NONE);
        Check.same("no paper", x.asked(2, 4, 1, 3), NONE);
        Check.same("no weather", x.asked(2, 1, 4, 3), NONE);
        Check.same("no headline", x.asked(2, 1, 1, 6), NONE);
        Check.same("none below 0", x.asked(-1, 1, 1, 3), NONE);
        Check.same("none below 0", x.asked(2, -1, 1, 3), NONE);
        Check.same("none below 0", x.asked(2, 1, -1, 3), NONE);
        Check.same("none below 0", x.asked(2, 1, 1, -1), NONE);
        for (int n : WRONG) {
            Check.same("asked", x.asked(n, 0, 0, 0), NONE);
            Check.same("asked", x.asked(0, n, 0, 0), NONE);
            Check.same("asked", x.asked(0, 0, n, 0), NONE);
            Check.same("asked", x.asked(0, 0, 0, n), NONE);
        }
    }

    private static void promise13Minutes() {
        PaperBoys x = new PaperBoys();
        Check.no("itself", x.minutes(3, 3, 5));
        Check.no("minutes", x.minutes(-1, 3, 5));
        Check.no("minutes", x.minutes(3, -1, 5));
        Check.no("minutes", x.minutes(10, 3, 5));
        Check.no("minutes", x.minutes(3, 10, 5));
        Check.no("minutes", x.minutes(3, 4, 0));
        Check.no("minutes", x.minutes(3, 4, 201));
        Check.same("10 at first", truck(x, 4, 100), 10);
        Check.yes("minutes", x.minutes(4, 0, 200));
        Check.same("either way", truck(x, 4, 200), 200);
        Check.yes("minutes", x.minutes(0, 4, 1));
        Check.same("either way", truck(x, 4, 1), 1);
        for (int n : WRONG) {
            Check.no("minutes", x.minutes(n, 0, 1));
            Check.no("minutes", x.minutes(0, n, 1));
            Check.no("minutes", x.minutes(0, 1, n));
        }
    }

    private static void promise14Terms() {
        linesOf("", 0);
        linesOf(" \n ", 0);
        linesOf("price 60;cry 1;back 0;most 200;sell;owe 100;", 6);
        linesOf("price 1000 if(school)or not(owner and week<9999);sell\nnot;", 2);
        PaperBoys x = new PaperBoys();
        Check.same("no such DAY", terms(x, -1, ""), -1000);
        Check.same("no such DAY", terms(x, 400, ""), -1000);
        Check.same("close", x.close(), 0);
        Check.same("closed", terms(x, 0, ""), -1000);
        Check.same("none", x.count(3), 0);
        Check.same("feed", Check.tape(x, "sell;").terms(0), -1000);
        Check.same("empty then", x.count(5), 0);
        for (int i = 0; i < 10; i++) {
            Check.same("terms", terms(x, i == 0 ? 1 : 399, "sell;"), 1);
            Check.same("empty then", x.count(5), 0);
        }
        Check.same("there are 10", terms(x, 5, ""), -1000);
        Check.same("there are 10", terms(x, 5, "x"), -1000);
        Check.same("count", x.count(3), 10);
        for (int n : WRONG) {
            Check.same("terms", terms(new PaperBoys(), n, ""), -1000);
        }
        whichAreInForce();
    }

    private static void whichAreInForce() {
        PaperBoys x = city();
        Check.same("terms", terms(x, 2, "price 22;"), 1);
        Check.same("terms", terms(x, 1, "price 11;"), 1);
        Check.same("terms", terms(x, 1, "price 12;cry 3;"), 2);
        Check.same("terms", terms(x, 4, "cry 4;"), 1);
        int[] price = {60, 12, 22, 22, 60};
        int[] cry = {1, 3, 1, 1, 4};
        for (int day = 0; day < 5; day++) {
            Check.same("bundle", x.bundle(0, 0, 1, 1, 5), day);
            Check.same("price on " + day, x.told(day, 0), price[day]);
            Check.same("cry on " + day, x.told(day, 1), cry[day]);
            x.close();
        }
        Check.same("bundle", x.bundle(0, 0, 1, 1, 5), 5);
        Check.same("terms of TODAY, behind a bundle", terms(x, 5, "price 99;"), 1);
        Check.same("they tell", x.told(5, 0), 99);
        Check.same("not of a day ahead", x.told(4, 0), 60);
    }

    private static void promise14Faults() {
        faultAt("x", 0, 1);
        faultAt("Price 5;", 0, 1);
        faultAt("price", 5, 1);
        faultAt("price  \n", 8, 1);
        faultAt("price 5", 7, 1);
        faultAt("price5;", 0, 1);
        faultAt("price 5x;", 6, 1);
        faultAt("price x5;", 6, 1);
        faultAt("sellz;", 0, 1);
        faultAt("sella;", 0, 1);
        faultAt("price 90a;", 6, 1);
        faultAt("price 12345;", 6, 1);
        faultAt("price 1001;", 6, 2);
        faultAt("price 9999", 6, 2);
        linesOf("price 1000;", 1);
        linesOf("price 0001;", 1);
        linesOf("price 0;", 1);
        faultAt("most 1001 if", 5, 2);
        faultAt("owe 1001;", 4, 2);
        faultAt("1001;", 0, 1);
        faultAt(";", 0, 1);
        faultAt("price 5;;", 8, 1);
        faultAt("price 5 price 6;", 8, 1);
        faultAt("price not 5;", 6, 1);
        faultAt("price 5 not;", 8, 1);
        faultAt("sell 5;", 5, 1);
        faultAt("sell not not;", 9, 1);
        faultAt("sell if;", 7, 1);
        faultAt("sell if ;", 8, 1);
        faultAt("sell if school", 14, 1);
        faultAt("sell if school badge;", 15, 1);
        faultAt("sell if (school;", 15, 1);
        faultAt("sell if school);", 14, 1);
        faultAt("sell if ();", 9, 1);
        faultAt("sell if school or;", 17, 1);
        faultAt("sell if school and or badge;", 19, 1);
        faultAt("sell if school and not;", 22, 1);
        faultAt("sell if age 5;", 12, 1);
        faultAt("sell if age<;", 12, 1);
        faultAt("sell if age<school;", 12, 1);
        faultAt("sell if age<=5;", 12, 1);
        faultAt("sell if age<10000;", 12, 1);
        faultAt("sell if school=1;", 14, 1);
        faultAt("sell if schoolschool;", 8, 1);
        faultAt("sell if scho\tol;", 8, 1);
        faultAt("sell\t;", 4, 1);
        faultAt("sell if price=5;", 8, 1);
        faultAt("if school;", 0, 1);
        faultAt("owe 5 if school;", 6, 1);
        faultAt("owe 5;sell;owe 6;", 11, 3);
        faultAt("owe 5;sell;owe x;", 11, 3);
        faultAt("owe 5;sell;owe", 11, 3);
        faultAt("owe 5;x;owe 5;", 6, 1);
        linesOf("sell if age<9999;", 1);
        String sixteen = "sell;".repeat(16);
        linesOf(sixteen, 16);
        faultAt(sixteen + "sell;", 80, 3);
        faultAt(sixteen + "  owe", 82, 3);
        faultAt(sixteen + "if", 80, 1);
        faultAt(sixteen + "5", 80, 1);
        oneFaults();
    }

    private static void oneFaults() {
        linesOf("sell if " + "not ".repeat(9) + "owner;", 1);
        faultAt("sell if " + "not ".repeat(10) + "owner;", 48, 4);
        linesOf("sell if " + "(".repeat(9) + "owner" + ")".repeat(9) + ";", 1);
        faultAt("sell if " + "(".repeat(10) + "owner" + ")".repeat(10) + ";", 18, 4);
        faultAt("sell if " + "(".repeat(10) + ";", 18, 1);
        faultAt("sell if " + "(".repeat(11) + "owner;", 18, 4);
        faultAt("sell if " + "not(".repeat(5) + "age", 28, 4);
        String ten = "(".repeat(9) + "owner" + ")".repeat(9);
        String fifty = "cry 1 if " + ten + "or" + ten + ";sell if " + ten + "and" + ten + "or" + ten;
        int end = fifty.length();
        linesOf(fifty + ";", 2);
        faultAt(fifty + "or x", end + 3, 1);
        faultAt(fifty + "or ", end + 3, 1);
        faultAt(fifty + "or age", end + 3, 4);
        faultAt(fifty + ";sell if not x", end + 9, 4);
        faultAt(fifty + "and(", end + 3, 4);
        faultAt(fifty.replace("sell", "most 1001"), fifty.indexOf("sell") + 5, 2);
    }

    private static void promise14LongTexts() {
        String five = "sell;";
        linesOf(five + " ".repeat(295), 1);
        faultAt(five + " ".repeat(296), 300, 1);
        faultAt(five + " ".repeat(294) + "sell;", 300, 1);
        faultAt(five + " ".repeat(294) + "sellx;", 299, 1);
        faultAt(five + " ".repeat(294) + "x", 299, 1);
        faultAt(five + " ".repeat(295) + "x", 300, 1);
        faultAt("price" + " ".repeat(294) + "1001;", 299, 2);
        faultAt("price" + " ".repeat(294) + "10000;", 299, 1);
        faultAt("price" + " ".repeat(294) + "1000;", 300, 1);
        faultAt("price" + " ".repeat(294) + "5", 300, 1);
        faultAt("price" + " ".repeat(295) + "1001;", 300, 1);
        faultAt("x" + " ".repeat(419), 0, 1);
        faultAt("owe 5;" + " ".repeat(293) + "owe 5;", 299, 3);
        faultAt("sell if not((((((((" + "(".repeat(401), 20, 4);
        faultAt("sell if (" + ";".repeat(291), 9, 1);
        faultAt(")".repeat(300), 0, 1);
        faultAt(")".repeat(420), 0, 1);
    }

    private static void promise15Fault() {
        PaperBoys x = new PaperBoys();
        Check.same("ahead of any", x.fault(), 0);
        terms(x, 0, "price 2000;");
        Check.same("fault", x.fault(), 2);
        Check.same("-1000", terms(x, 400, "x"), -1000);
        Check.same("it stays", x.fault(), 2);
        terms(x, 0, "sell;");
        Check.same("without one", x.fault(), 0);
        Check.tape(x, "x").tried();
        Check.same("of tried()", x.fault(), 1);
        Check.tape(x, "").tried();
        Check.same("without one", x.fault(), 0);
    }

    private static void promise16Bundle() {
        PaperBoys x = city();
        Check.same("no boy", x.bundle(3, 0, 1, 1, 5), NONE);
        Check.same("no boy", x.bundle(-1, 0, 1, 1, 5), NONE);
        Check.same("no paper", x.bundle(0, 4, 1, 1, 5), NONE);
        Check.same("no paper", x.bundle(0, -1, 1, 1, 5), NONE);
        Check.same("no corner", x.bundle(0, 0, 10, 1, 5), NONE);
        Check.same("no corner", x.bundle(0, 0, -1, 1, 5), NONE);
        Check.same("no copies", x.bundle(0, 0, 1, 0, 5), NONE);
        Check.same("too early", x.bundle(0, 0, 1, 1, 3), NONE);
        Check.same("too late", x.bundle(0, 0, 1, 1, 21), NONE);
        Check.same("above most", x.bundle(0, 0, 1, 201, 5), NONE);
        Check.same("owing 101", x.bundle(0, 0, 1, 168, 5), NONE);
        Check.same("coin stays", x.coin(0), 0);
        Check.same("owing 100", x.bundle(0, 0, 1, 166, 4), 0);
        Check.same("coin", x.coin(0), -100);
        Check.same("owing 101", x.bundle(0, 0, 1, 1, 20), NONE);
        Check.same("another boy", x.bundle(1, 0, 1, 1, 20), 1);
        Check.same("rounded up", x.of(1, 4), 1);
        Check.same("terms", terms(x, 0, "price 0;most 1000;owe 99;"), 3);
        Check.same("already owing too much", x.bundle(0, 0, 1, 1, 5), NONE);
        Check.same("1000 copies", x.bundle(1, 0, 1, 1000, 5), 2);
        Check.same("1001 copies", x.bundle(1, 0, 1, 1001, 5), NONE);
        for (int n : WRONG) {
            Check.same("bundle", x.bundle(n, 0, 1, 1, 5), NONE);
            Check.same("bundle", x.bundle(1, n, 1, 1, 5), NONE);
            Check.same("bundle", x.bundle(1, 0, n, 1, 5), NONE);
            Check.same("bundle", x.bundle(1, 0, 1, n, 5), NONE);
            Check.same("bundle", x.bundle(1, 0, 1, 1, n), NONE);
        }
        for (int k = 3; k < 200; k++) {
            Check.same("bundle", x.bundle(1, 0, 1, 1, 5), k);
        }
        Check.same("there are 200", x.bundle(1, 0, 1, 1, 5), NONE);
        Check.same("count", x.count(2), 200);
    }

    private static void promise17Told() {
        PaperBoys x = city();
        Check.same("no bundle", x.told(0, 0), NONE);
        Check.same("bundle", x.bundle(0, 0, 1, 1, 5), 0);
        int[] without = {60, 1, 0, 200, 1, 100};
        for (int what = 0; what < 6; what++) {
            Check.same("without a LINE", x.told(0, what), without[what]);
        }
        Check.same("no what", x.told(0, 6), NONE);
        Check.same("no what", x.told(0, -1), NONE);
        Check.same("no bundle", x.told(1, 0), NONE);
        Check.same("no bundle", x.told(-1, 0), NONE);
        Check.same("terms", terms(x, 0, "price 5 if not school;price 6;price 7;cry 1000;back 101;most 0;sell not;owe 0;"), 8);
        int[] told = {6, 1000, 100, 0, 0, 0};
        for (int what = 0; what < 6; what++) {
            Check.same("told", x.told(0, what), told[what]);
        }
        Check.same("terms", terms(x, 0, "sell if school;sell not;back 99;"), 3);
        Check.same("may", x.told(0, 4), 1);
        Check.same("back", x.told(0, 2), 99);
        for (int n : WRONG) {
            Check.same("told", x.told(n, 0), NONE);
            Check.same("told", x.told(0, n), NONE);
        }
    }

    private static void holds(PaperBoys x, int k, String cond, boolean due) {
        PaperBoys y = x;
        Check.same(cond, terms(y, y.count(0), "price 111 if " + cond + ";"), 1);
        Check.same(cond, y.told(k, 0), due ? 111 : 60);
    }

    /** On DAY 9, a boy of 13 with fists 44, 37 copies of paper 2 at corner 6 at 17, weather 3. */
    private static PaperBoys ninthDay() {
        PaperBoys x = new PaperBoys();
        x.boy(8, true, 8, 5);
        x.boy(13, false, 9, 44);
        x.owner(6, 1);
        for (int i = 0; i < 9; i++) {
            x.close();
        }
        Check.yes("weather", Check.tape(x, 0, 0, 0, 0, 0, 0, 0, 0, 2, 3, 1).weather());
        Check.same("bundle", x.bundle(1, 2, 6, 37, 17), 0);
        Check.same("bundle", x.bundle(0, 2, 6, 37, 17), 1);
        return x;
    }

    private static void promise17Facts() {
        String[] words = {"age", "hour", "week", "day", "paper", "corner", "copies", "weather", "fists"};
        int[] value = {13, 17, 2, 9, 2, 6, 37, 3, 44};
        for (int i = 0; i < words.length; i++) {
            PaperBoys x = ninthDay();
            holds(x, 0, words[i] + "=" + value[i], true);
            holds(x, 0, words[i] + "=" + (value[i] + 1), false);
            holds(x, 0, words[i] + "<" + value[i], false);
            holds(x, 0, words[i] + "<" + (value[i] + 1), true);
            holds(x, 0, words[i] + ">" + value[i], false);
            holds(x, 0, words[i] + ">" + (value[i] - 1), true);
        }
        PaperBoys x = ninthDay();
        holds(x, 0, "school", false);
        holds(x, 1, "school", true);
        holds(x, 0, "badge", true);
        holds(x, 1, "badge", false);
        holds(x, 0, "owner", true);
        holds(x, 1, "owner", false);
        Check.yes("weather", Check.tape(x, 0).weather());
        holds(x, 0, "weather=3", true);
        Check.yes("weather", Check.tape(x, 1, 255, 255, 255, 255, 255, 255, 255, 255, 255).weather());
        holds(x, 0, "weather=1", true);
    }

    /** Of bundle 0 badge and owner hold, school does not. */
    private static void promise17Joins() {
        PaperBoys x = ninthDay();
        holds(x, 0, "badge or school and school", true);
        holds(x, 0, "(badge or school)and school", false);
        holds(x, 0, "school and school or badge", true);
        holds(x, 0, "not school and owner", true);
        holds(x, 0, "not(school or owner)", false);
        holds(x, 0, "not school or owner", true);
        holds(x, 0, "not not owner and not not not school", true);
        holds(x, 0, "school or school or badge", true);
        holds(x, 0, "owner and badge and school", false);
        x = ninthDay();
        holds(x, 0, "owner and(school or(owner and(school or(owner and(school or(owner and(school or owner)))))))", true);
        holds(x, 0, "owner and(school or(owner and(school or(owner and(school or(owner and(school or school)))))))", false);
        holds(x, 0, "school or owner and(school or owner and(school or owner and(school or badge and not school)))", true);
    }

    private static void promise18Why() {
        PaperBoys x = city();
        Check.same("ahead of any", x.why(), NONE);
        Check.same("bundle", x.bundle(0, 0, 1, 1, 5), 0);
        Check.same("told", x.told(0, 0), 60);
        Check.same("none", x.why(), NONE);
        Check.same("terms", terms(x, 0, "cry 9 if not school;price 7 if hour>5;owe 50;price 8;cry 3;sell;"), 6);
        int[] line = {3, 4, NONE, NONE, 5, 2};
        for (int what = 0; what < 6; what++) {
            x.told(0, what);
            Check.same("why", x.why(), line[what]);
            Check.same("again", x.why(), line[what]);
        }
        Check.same("bundles do not change it", x.bundle(0, 0, 1, 1, 6), 1);
        Check.same("why", x.why(), 2);
        Check.same("another", x.told(1, 0), 7);
        Check.same("why", x.why(), 1);
        x.close();
        Check.same("CLOSE does not change it", x.why(), 1);
        Check.same("no such", x.told(2, 0), NONE);
        Check.same("no LINE told it", x.why(), NONE);
    }

    private static void promise19Close() {
        PaperBoys x = city();
        Check.yes("want", x.want(1, 1, 10));
        Check.yes("want", x.want(2, 0, 5));
        Check.same("terms", terms(x, 0, "price 55;cry 3;back 33;owe 1000;"), 4);
        Check.same("bundle", x.bundle(0, 0, 1, 150, 5), 0);
        Check.same("bundle", x.bundle(0, 1, 1, 9, 5), 1);
        Check.same("bundle", x.bundle(0, 0, 2, 5, 5), 2);
        Check.same("bundle", x.bundle(1, 0, 3, 40, 5), 3);
        Check.same("costs 83, 5, 3", x.coin(0), -91);
        Check.same("cost 22", x.coin(1), -22);
        Check.same("CORNER by CORNER, PAPER by PAPER", x.close(), 114);
        Check.same("sold", x.of(0, 1), 100);
        Check.same("33 of a hundred of 50, cut", x.of(0, 2), 16);
        Check.same("eaten", x.of(0, 3), 34);
        Check.same("16 times 55 by 100 is 8", x.coin(0), -91 + 342 + 8);
        Check.same("13 back, 7 cents", x.coin(1), -22 + 7);
        Check.same("next DAY", x.count(0), 1);
        Check.same("no bundles", x.close(), 0);
        Check.same("once only", x.coin(1), -15);
    }

    private static void promise19Order() {
        PaperBoys x = new PaperBoys();
        x.boy(10, true, -1, 20);
        x.boy(10, true, -1, 30);
        x.boy(10, true, -1, 30);
        x.boy(10, false, -1, 5);
        x.boy(10, false, -1, 99);
        x.want(1, 0, 55);
        x.owner(1, 3);
        x.owner(2, 0);
        Check.same("terms", terms(x, 0, "sell not if fists=99;back 100;"), 2);
        int[] boy = {0, 1, 2, 3, 4, 0, 2};
        int[] hour = {7, 7, 7, 7, 4, 6, 8};
        for (int k = 0; k < 7; k++) {
            Check.same("bundle", x.bundle(boy[k], 0, 1, 15, hour[k]), k);
        }
        Check.same("close", x.close(), 55);
        int[] sold = {0, 15, 10, 15, 0, 15, 0};
        for (int k = 0; k < 7; k++) {
            Check.same("sold of " + k, x.of(k, 1), sold[k]);
            Check.same("back of " + k, x.of(k, 2), 15 - sold[k]);
            Check.same("eaten of " + k, x.of(k, 3), 0);
        }
    }

    private static void promise19LastDay() {
        PaperBoys x = new PaperBoys();
        x.boy(10, true, -1, 20);
        x.want(0, 0, 7);
        for (int i = 0; i < 399; i++) {
            Check.same("close", x.close(), 0);
        }
        Check.same("terms", terms(x, 399, "cry 2;"), 1);
        Check.yes("headline", x.headline(0, 399, 1));
        Check.same("bundle", x.bundle(0, 0, 0, 9, 5), 0);
        Check.same("DAY 399 closes, too", x.close(), 7);
        Check.same("TODAY", x.count(0), 400);
        Check.same("NONE", x.close(), NONE);
        Check.same("NONE", x.bundle(0, 0, 0, 1, 5), NONE);
        Check.same("terms", terms(x, 399, ""), -1000);
        Check.same("terms", terms(x, 400, ""), -1000);
        Check.no("headline", x.headline(0, 399, 1));
        Check.same("counted", x.counted(0, 0, 399, 3), 0);
        Check.same("counted", x.counted(0, 0, 400, 3), NONE);
        Check.same("false", x.falseCounts(400), 1);
        Check.same("false", x.falseCounts(399), 0);
        Check.same("told", x.told(0, 1), 2);
        Check.same("tried", x.tried(), 1);
        Check.same("TODAY", x.count(0), 400);
    }

    private static void promise20Of() {
        PaperBoys x = city();
        Check.noOf(x, 0, 0);
        x.close();
        Check.same("terms", terms(x, 1, "back 50;"), 1);
        Check.same("bundle", x.bundle(0, 0, 1, 105, 5), 0);
        int[] ahead = {1, 0, 0, 0, 63};
        int[] behind = {1, 100, 2, 3, 63};
        for (int what = 0; what < 5; what++) {
            Check.same("ahead of CLOSE", x.of(0, what), ahead[what]);
        }
        x.close();
        for (int what = 0; what < 5; what++) {
            Check.same("behind CLOSE", x.of(0, what), behind[what]);
        }
        Check.noOf(x, 0, 5);
        Check.noOf(x, 0, -1);
        Check.noOf(x, 1, 0);
        Check.noOf(x, -1, 0);
        for (int n : WRONG) {
            Check.noOf(x, n, 0);
            Check.noOf(x, 0, n);
        }
    }

    private static void promise21Coin() {
        PaperBoys x = new PaperBoys();
        Check.noCoin(x, 0);
        x.boy(10, true, -1, 20);
        x.want(3, 3, 20);
        Check.same("0 at first", x.coin(0), 0);
        Check.noCoin(x, 1);
        Check.noCoin(x, -1);
        for (int n : WRONG) {
            Check.noCoin(x, n);
        }
        x.bundle(0, 3, 3, 30, 5);
        Check.same("below 0", x.coin(0), -18);
        x.close();
        Check.same("cried", x.coin(0), 2);
    }

    /** On DAY 0 of paper 0 at corner 1 came back 5 and 3, on DAY 1 of paper 0 at corner 2 came back 4. */
    private static PaperBoys withBacks() {
        PaperBoys x = city();
        Check.same("terms", terms(x, 0, "back 100;owe 1000;"), 2);
        x.bundle(0, 0, 1, 100, 4);
        x.bundle(0, 0, 1, 5, 5);
        x.bundle(1, 0, 1, 3, 5);
        x.close();
        x.bundle(1, 0, 2, 4, 5);
        return x;
    }

    private static void promise22Counted() {
        PaperBoys x = withBacks();
        Check.same("not closed", x.counted(0, 2, 1, 5), NONE);
        Check.same("no paper", x.counted(4, 1, 0, 5), NONE);
        Check.same("no paper", x.counted(-1, 1, 0, 5), NONE);
        Check.same("no corner", x.counted(0, 10, 0, 5), NONE);
        Check.same("no corner", x.counted(0, -1, 0, 5), NONE);
        Check.same("no day", x.counted(0, 1, -1, 5), NONE);
        Check.same("below 0", x.counted(0, 1, 0, -1), NONE);
        Check.same("above", x.counted(0, 1, 0, 10001), NONE);
        for (int n : WRONG) {
            Check.same("counted", x.counted(n, 1, 0, 5), NONE);
            Check.same("counted", x.counted(0, n, 0, 5), NONE);
            Check.same("counted", x.counted(0, 1, n, 5), NONE);
            Check.same("counted", x.counted(0, 1, 0, n), NONE);
        }
        Check.same("counted", x.counted(0, 1, 0, 0), 0);
        Check.same("counted", x.counted(3, 9, 0, 10000), 1);
        for (int i = 2; i < 60; i++) {
            Check.same("counted", x.counted(0, 1, 0, 8), i);
        }
        Check.same("there are 60", x.counted(0, 1, 0, 8), NONE);
        Check.same("count", x.count(4), 60);
    }

    private static void promise23FalseCounts() {
        PaperBoys x = withBacks();
        Check.same("none", x.falseCounts(400), 0);
        Check.same("as many", x.counted(0, 1, 0, 8), 0);
        Check.same("not false", x.falseCounts(1), 0);
        Check.same("more", x.counted(0, 1, 0, 9), 1);
        Check.same("false", x.falseCounts(1), 1);
        Check.same("where nothing came back", x.counted(1, 1, 0, 1), 2);
        Check.same("false", x.falseCounts(1), 2);
        Check.same("another corner", x.counted(0, 2, 0, 0), 3);
        Check.same("not false", x.falseCounts(1), 2);
        x.close();
        Check.same("the last one counts", x.counted(0, 1, 0, 8), 4);
        Check.same("AS OF 1", x.falseCounts(1), 2);
        Check.same("AS OF 2", x.falseCounts(2), 1);
        Check.same("ahead of all", x.falseCounts(0), 0);
        Check.same("ahead of all", x.falseCounts(Integer.MIN_VALUE), 0);
        Check.same("behind all", x.falseCounts(Integer.MAX_VALUE), 1);
    }

    private static void promise24ShortOf() {
        PaperBoys x = withBacks();
        Check.same("nothing counted", x.shortOf(0), 8);
        Check.same("DAY 1 is not closed", x.shortOf(1), 8);
        Check.same("ahead of all", x.shortOf(-1), 0);
        Check.same("counted", x.counted(0, 1, 0, 6), 0);
        Check.same("told on 1", x.shortOf(0), 8);
        Check.same("AS OF 1", x.shortOf(1), 2);
        x.close();
        Check.same("DAY 1 is closed", x.shortOf(1), 6);
        Check.same("more than came", x.counted(0, 1, 0, 20), 1);
        Check.same("0 at least", x.shortOf(2), 4);
        Check.same("AS OF 1", x.shortOf(1), 6);
        Check.same("elsewhere", x.counted(1, 2, 1, 4), 2);
        Check.same("of no matter", x.shortOf(2), 4);
        Check.same("counted", x.counted(0, 2, 1, 3), 3);
        Check.same("AS OF 2", x.shortOf(2), 1);
        Check.same("behind all", x.shortOf(Integer.MAX_VALUE), 1);
        Check.same("ahead of all", x.shortOf(Integer.MIN_VALUE), 0);
    }

    private static void promise25Best() {
        PaperBoys x = city();
        int[] shares = {1, 0, 0, 0, 1, 0, 0, 0, 0, 0};
        Check.same("as many as are asked", Check.tape(x, shares).best(1, 0, 60, 1, 0), 100);
        Check.same("empty then", x.count(5), 0);
        Check.same("nine bytes", Check.tape(x, 1, 0, 0, 0, 1, 0, 0, 0, 0).best(1, 0, 60, 1, 0), NONE);
        Check.same("eleven", Check.tape(x, 1, 0, 0, 0, 1, 0, 0, 0, 0, 0, 0).best(1, 0, 60, 1, 0), NONE);
        Check.same("empty then", x.count(5), 0);
        Check.same("21", Check.tape(x, 1, 0, 0, 0, 1, 0, 0, 0, 0, 21).best(1, 0, 60, 1, 0), NONE);
        Check.same("21", Check.tape(x, 21, 0, 0, 0, 1, 0, 0, 0, 0, 0).best(1, 0, 60, 1, 0), NONE);
        Check.same("20", Check.tape(x, 20, 20, 20, 20, 20, 20, 20, 20, 20, 20).best(1, 0, 60, 1, 0), 100);
        int[][] wrong = {{10, 0, 0, 0, 0}, {-1, 0, 0, 0, 0}, {0, 4, 0, 0, 0}, {0, -1, 0, 0, 0}, {0, 0, 1001, 0, 0},
            {0, 0, -1, 0, 0}, {0, 0, 0, 1001, 0}, {0, 0, 0, -1, 0}, {0, 0, 0, 0, 101}, {0, 0, 0, 0, -1}};
        for (int[] w : wrong) {
            Check.same("not as told", Check.tape(x, shares).best(w[0], w[1], w[2], w[3], w[4]), NONE);
        }
        Check.same("a price as dear as the cry", Check.tape(x, shares).best(1, 0, 100, 1, 0), 0);
        Check.same("like ones: the least", Check.tape(x, shares).best(1, 0, 0, 1, 0), 100);
        Check.yes("want", x.want(1, 0, 400));
        Check.yes("wet", x.table(0, 1, 300));
        Check.same("400 at most", Check.tape(x, 0, 1, 0, 0, 1, 0, 0, 0, 0, 0).best(1, 0, 1000, 1000, 100), 400);
        Check.yes("want", x.want(1, 0, 10));
        Check.same("by shares", Check.tape(x, 1, 2, 0, 0, 1, 0, 0, 0, 0, 0).best(1, 0, 100, 2, 0), 30);
        Check.same("by shares", Check.tape(x, 2, 1, 0, 0, 1, 0, 0, 0, 0, 0).best(1, 0, 100, 2, 0), 10);
        Check.same("back makes it worth", Check.tape(x, 2, 1, 0, 0, 1, 0, 0, 0, 0, 0).best(1, 0, 100, 2, 100), 30);
    }

    private static void promise26Expected() {
        PaperBoys x = city();
        Check.same("ahead of any", x.expected(), 0);
        Check.same("best", Check.tape(x, 2, 0, 0, 0, 3, 0, 0, 0, 0, 0).best(1, 0, 60, 1, 0), 100);
        Check.same("40 times 6", x.expected(), 240);
        Check.same("not as told", x.best(1, 0, 60, 1, 0), NONE);
        Check.same("it stays", x.expected(), 240);
        Check.yes("want", x.want(1, 0, 400));
        Check.same("best", Check.tape(x, 20, 20, 20, 20, 20, 20, 20, 20, 20, 20).best(1, 0, 0, 1000, 0), 400);
        Check.same("a long", x.expected(), 400L * 1000 * 80 * 120);
        Check.yes("want", x.want(1, 0, 10));
        Check.yes("wet", x.table(0, 1, 300));
        Check.same("best", Check.tape(x, 1, 1, 0, 0, 1, 0, 0, 0, 0, 0).best(1, 0, 99, 2, 50), 30);
        Check.same("30 sold, or 10 and 10 back for 9 cents", x.expected(), 30 + 20 - 30 + 9);
    }

    private static void promise27Tried() {
        PaperBoys x = withBacks();
        Check.same("nothing told", Check.tape(x, "").tried(), 100 - 60 - 3 - 2);
        Check.same("empty then", x.count(5), 0);
        Check.same("sold for 2, all back", Check.tape(x, "cry 2;back 100;").tried(), 200 - 65 + 4);
        Check.same("nothing sold", Check.tape(x, "price 10;sell not;most 0;owe 0;").tried(), -12);
        Check.same("by facts", Check.tape(x, "price 0 if copies=100;sell not if copies=100;price 1000;").tried(), -80 + 8);
        Check.same("no TERMS told", x.count(3), 1);
        Check.same("coin stays", x.coin(0), 100 - 60 - 3 + 3);
        Check.same("of stays", x.of(0, 1), 100);
        Check.yes("want as now", x.want(1, 0, 50));
        Check.same("want as now", Check.tape(x, "").tried(), 50 - 65);
        Check.yes("weather as now", Check.tape(x, 1).weather());
        Check.yes("wet as now", x.table(0, 1, 10));
        Check.same("wet as now", Check.tape(x, "").tried(), 5 - 65);
        x.close();
        Check.same("DAY 1, too", Check.tape(x, "").tried(), 5 - 68);
        Check.same("fault", Check.tape(x, "sell").tried(), -1000000004);
        Check.same("empty then", x.count(5), 0);
        Check.yes("weather", Check.tape(x, 0).weather());
        Check.yes("want", x.want(1, 0, 103));
        Check.same("the greater fists first", Check.tape(x, "price 0;cry 5 if school;").tried(), 503);
        Check.yes("owner", x.owner(1, 0));
        Check.same("the owner first", Check.tape(x, "price 0;cry 5 if school;").tried(), 515);
        Check.same("TODAY", x.count(0), 2);
    }

    private static void promise28TriedEaten() {
        PaperBoys x = withBacks();
        Check.same("ahead of any", x.triedEaten(), NONE);
        Check.tape(x, "x").tried();
        Check.same("ahead of any without a FAULT", x.triedEaten(), NONE);
        Check.tape(x, "").tried();
        Check.same("eaten", x.triedEaten(), 8);
        Check.tape(x, "back 40;").tried();
        Check.same("2 of 5 and 1 of 3 come back", x.triedEaten(), 5);
        Check.tape(x, "x").tried();
        Check.same("it stays", x.triedEaten(), 5);
        Check.tape(x, "sell not;").tried();
        Check.same("eaten", x.triedEaten(), 108);
        Check.tape(new PaperBoys(), "").tried();
    }

    private static void promise29Parted() {
        PaperBoys x = new PaperBoys();
        Check.same("no bytes", x.parted(1, 0, 1), NONE);
        Check.same("n 0", x.parted(0, 0, 1), NONE);
        Check.same("n 9", Check.tape(x, new byte[162]).parted(9, 0, 1), NONE);
        Check.same("empty then", x.count(5), 0);
        Check.same("a byte more", Check.tape(x, 1, 1, 1).parted(1, 0, 1), NONE);
        Check.same("a byte less", Check.tape(x, 1).parted(1, 0, 1), NONE);
        Check.same("no way", Check.tape(x, 1, 1).parted(1, 2, 1), NONE);
        Check.same("no way", Check.tape(x, 1, 1).parted(1, -1, 1), NONE);
        Check.same("no sum", Check.tape(x, 1, 1).parted(1, 1, 0), NONE);
        Check.same("no sum", Check.tape(x, 1, 1).parted(1, 1, 256), NONE);
        Check.same("sum of no matter", Check.tape(x, 255, 1).parted(1, 0, -9), 255);
        Check.same("sum 255", Check.tape(x, 7, 1).parted(1, 1, 255), 7);
        for (int n : WRONG) {
            Check.same("parted", Check.tape(x, 1, 1).parted(n, 0, 1), NONE);
            Check.same("parted", Check.tape(x, 1, 1).parted(1, n, 1), NONE);
            Check.same("parted", Check.tape(x, 1, 1).parted(1, 1, n), NONE);
        }
        // Both want corner 1; like mights there, so the least boy keeps it.
        Check.same("offers", Check.tape(x, 1, 9, 2, 9, 5, 5, 5, 5).parted(2, 0, 0), 11);
        Check.same("boy 0", x.partedAt(0), 1);
        Check.same("the mightier", Check.tape(x, 1, 9, 2, 9, 5, 5, 5, 6).parted(2, 0, 0), 10);
        Check.same("boy 1", x.partedAt(1), 1);
        // Like gains: the least corner is asked for first.
        Check.same("like gains", Check.tape(x, 4, 4, 4, 4, 1, 1, 2, 1).parted(2, 0, 0), 8);
        Check.same("boy 1 at 0", x.partedAt(1), 0);
        Check.same("best: the first of like ones", Check.tape(x, 4, 4, 4, 4, 1, 1, 2, 1).parted(2, 1, 1), 8);
        Check.same("boy 0 at 0", x.partedAt(0), 0);
        // The parting with the greater sum has peace only for 7 and more.
        int[] row = {1, 9, 0, 6, 5, 5, 5, 6};
        Check.same("best with peace", Check.tape(x, row).parted(2, 1, 7), 9);
        Check.same("boy 0", x.partedAt(0), 1);
        Check.same("best with peace", Check.tape(x, row).parted(2, 1, 6), 7);
        Check.same("boy 0", x.partedAt(0), 0);
    }

    private static void promise30PartedAt() {
        PaperBoys x = new PaperBoys();
        Check.same("ahead of any", x.partedAt(0), NONE);
        Check.same("parted", Check.tape(x, 1, 9, 2, 9, 5, 5, 5, 5).parted(2, 0, 0), 11);
        Check.same("k", x.partedAt(-1), NONE);
        Check.same("k", x.partedAt(0), 1);
        Check.same("k", x.partedAt(1), 0);
        Check.same("k", x.partedAt(2), NONE);
        Check.same("not as told", Check.tape(x, 1, 9, 2, 9, 5, 5, 5).parted(2, 0, 0), NONE);
        Check.same("no way", Check.tape(x, 1, 1).parted(1, 1, 0), NONE);
        Check.same("it stays", x.partedAt(1), 0);
        Check.same("no way", Check.tape(x, 3, 1).parted(1, 0, 0), 3);
        Check.same("the latest", x.partedAt(0), 0);
        Check.same("the latest", x.partedAt(1), NONE);
        for (int n : WRONG) {
            Check.same("k", x.partedAt(n), NONE);
        }
    }

    private static void promise31Peace() {
        PaperBoys x = new PaperBoys();
        Check.same("ahead of any", x.peace(1), NONE);
        // By offers boy 1 takes corner 1; boy 0 gains 8 more there, but has not more might.
        Check.same("parted", Check.tape(x, 1, 9, 2, 9, 5, 5, 5, 6).parted(2, 0, 0), 10);
        Check.same("peace", x.peace(1), 1);
        Check.same("no sum", x.peace(0), NONE);
        Check.same("no sum", x.peace(256), NONE);
        int[] row = {1, 9, 0, 6, 5, 5, 5, 6};
        Check.same("parted", Check.tape(x, row).parted(2, 1, 7), 9);
        Check.same("boy 1 gains 6 more at corner 1", x.peace(7), 1);
        Check.same("by at least the sum", x.peace(6), 0);
        Check.same("peace", x.peace(255), 1);
        Check.same("not as told", Check.tape(x, 1).parted(1, 1, 1), NONE);
        Check.same("it stays", x.peace(6), 0);
        for (int n : WRONG) {
            Check.same("peace", x.peace(n), NONE);
        }
    }

    /** Drives to one or more corners, told as pairs of a corner and a minute. */
    private static int truck(PaperBoys x, int... pairs) {
        byte[] row = new byte[20];
        for (int i = 0; i < 20; i++) {
            row[i] = (byte) 255;
        }
        for (int i = 0; i < pairs.length; i += 2) {
            row[2 * pairs[i]] = (byte) (pairs[i + 1] / 256);
            row[2 * pairs[i] + 1] = (byte) (pairs[i + 1] % 256);
        }
        return Check.tape(x, row).truck();
    }

    private static void promise32Truck() {
        PaperBoys x = new PaperBoys();
        Check.same("no bytes", x.truck(), NONE);
        Check.same("19", Check.tape(x, new byte[19]).truck(), NONE);
        Check.same("21", Check.tape(x, new byte[21]).truck(), NONE);
        Check.same("empty then", x.count(5), 0);
        Check.same("nowhere", truck(x), 0);
        Check.same("CORNER 0 is of no matter", truck(x, 0, 0), 0);
        Check.same("in time", truck(x, 7, 10), 10);
        Check.same("late", truck(x, 7, 9), NONE);
        Check.same("MINUTE 0", truck(x, 7, 0), NONE);
        Check.same("two", truck(x, 7, 10, 2, 20), 20);
        Check.same("first 7", x.truckAt(0), 7);
        Check.same("two late", truck(x, 7, 10, 2, 19), NONE);
        Check.same("a high byte", truck(x, 7, 65534), 10);
        Check.yes("minutes", x.minutes(0, 2, 30));
        Check.yes("minutes", x.minutes(2, 7, 5));
        Check.same("the sooner way", truck(x, 7, 1000, 2, 1000), 15);
        Check.same("first 7", x.truckAt(0), 7);
        Check.same("the other way", truck(x, 7, 1000, 2, 14), NONE);
        Check.same("not by way of 7", truck(x, 2, 30), 30);
        Check.same("late", truck(x, 2, 29), NONE);
        Check.same("all nine", truck(x, 1, 99, 2, 99, 3, 99, 4, 99, 5, 99, 6, 99, 7, 99, 8, 99, 9, 99), 85);
        Check.same("the first of like ones", x.truckAt(0), 1);
        Check.same("the first of like ones", x.truckAt(1), 2);
        Check.same("the first of like ones", x.truckAt(2), 7);
        Check.same("the first of like ones", x.truckAt(3), 3);
    }

    private static void promise33TruckAt() {
        PaperBoys x = new PaperBoys();
        Check.same("ahead of any", x.truckAt(0), NONE);
        Check.same("three", truck(x, 3, 99, 9, 10, 5, 99), 30);
        int[] due = {NONE, 9, 3, 5, NONE};
        for (int k = -1; k < 4; k++) {
            Check.same("k", x.truckAt(k), due[k + 1]);
        }
        Check.same("late", truck(x, 3, 9), NONE);
        Check.same("20 bytes", Check.tape(x, 1).truck(), NONE);
        Check.same("it stays", x.truckAt(0), 9);
        Check.same("nowhere", truck(x), 0);
        Check.same("none such", x.truckAt(0), NONE);
        for (int n : WRONG) {
            Check.same("k", x.truckAt(n), NONE);
        }
    }

    private static void promise34Strike() {
        PaperBoys x = new PaperBoys();
        Check.same("no weeks", x.strike(1, 1, 1, 1, 1), NONE);
        Check.same("half a week", Check.tape(x, 5).strike(1, 1, 1, 1, 1), NONE);
        Check.same("one and a half", Check.tape(x, 5, 5, 5).strike(1, 1, 1, 1, 1), NONE);
        Check.same("empty then", x.count(5), 0);
        Check.same("50 weeks", Check.tape(x, new byte[100]).strike(1, 1, 1, 1, 1), 0);
        Check.same("51 weeks", Check.tape(x, new byte[102]).strike(1, 1, 1, 1, 1), NONE);
        for (int i = 0; i < 5; i++) {
            for (int wrong : new int[] {-1, 100001, Integer.MIN_VALUE, Integer.MAX_VALUE}) {
                int[] n = {100000, 0, 0, 100000, 0};
                n[i] = wrong;
                Check.same("not as told", Check.tape(x, 5, 5).strike(n[0], n[1], n[2], n[3], n[4]), NONE);
            }
        }
        Check.same("like offers", Check.tape(x, 5, 5).strike(100000, 100000, 100000, 100000, 100000), 0);
        Check.same("no week ends it", Check.tape(x, 5, 6).strike(7, 7, 0, 7, 7), NONE);
        Check.same("the fund", Check.tape(x, 5, 6).strike(6, 7, 0, 7, 7), 0);
        Check.same("the purse", Check.tape(x, 5, 6).strike(7, 7, 0, 6, 7), 0);
        Check.same("need is more by growth", Check.tape(x, 5, 6, 5, 6, 5, 6).strike(29, 0, 10, 0, 0), 2);
        Check.same("not yet", Check.tape(x, 5, 6, 5, 6, 5, 6).strike(30, 0, 10, 0, 0), NONE);
        Check.same("the first week", Check.tape(x, 5, 6, 7, 6, 8, 6).strike(100, 0, 0, 100, 0), 1);
        byte[] row = new byte[100];
        for (int i = 1; i < 100; i += 2) {
            row[i] = (byte) 255;
        }
        Check.same("the last week", Check.tape(x, row).strike(100000, 0, 0, 98, 2), 49);
        Check.same("all in one", Check.tape(x, row).strike(0, 100000, 100000, 0, 100000), 0);
    }

    private static void promise35Struck() {
        PaperBoys x = new PaperBoys();
        Check.same("ahead of any", x.struck(0), NONE);
        Check.same("ahead of any", x.struck(1), NONE);
        struck(Check.tape(x, 8, 6).strike(0, 1, 0, 0, 1), x, 0, 6);
        struck(Check.tape(x, 5, 6).strike(0, 1, 0, 0, 1), x, 1, 6);
        struck(Check.tape(x, 5, 6).strike(1, 1, 0, 0, 1), x, 2, 5);
        Check.same("no week", Check.tape(x, 5, 6).strike(1, 1, 0, 1, 1), NONE);
        Check.same("it stays", x.struck(0), 2);
        Check.same("not as told", x.strike(1, 1, 0, 1, 1), NONE);
        Check.same("it stays", x.struck(1), 5);
        Check.same("another what", x.struck(2), NONE);
        Check.same("another what", x.struck(-1), NONE);
        for (int n : WRONG) {
            Check.same("another what", x.struck(n), NONE);
        }
    }

    private static void struck(int week, PaperBoys x, int how, int price) {
        Check.same("week", week, 0);
        Check.same("how", x.struck(0), how);
        Check.same("price", x.struck(1), price);
    }

    private static void promise36Count() {
        PaperBoys x = withBacks();
        Check.same("TODAY", x.count(0), 1);
        Check.same("BOYS", x.count(1), 3);
        Check.same("BUNDLES", x.count(2), 4);
        Check.same("TERMS", x.count(3), 1);
        x.counted(0, 0, 0, 0);
        Check.same("COUNTS", x.count(4), 1);
        x.feed(0, 0, 0, 0, 0);
        x.end(9);
        Check.same("bytes", x.count(5), 9);
        Check.same("another what", x.count(6), NONE);
        Check.same("another what", x.count(-1), NONE);
        for (int n : WRONG) {
            Check.same("another what", x.count(n), NONE);
        }
    }
}
