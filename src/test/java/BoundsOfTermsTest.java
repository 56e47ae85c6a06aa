/** Promises 14, 15, 17 and 18, and "==== 2." of the document: each sentence that names a boundary case, one by one. */
public final class BoundsOfTermsTest {
    private static final int NONE = PaperBoys.NONE;
    private static final int LEAST = Integer.MIN_VALUE;
    private static final int GREATEST = Integer.MAX_VALUE;
    private static final String[] KINDS = {"price", "cry", "back", "most", "sell", "owe"};
    private static final String[] FACTS = {"age", "hour", "week", "day", "paper", "corner", "copies", "weather", "fists"};

    /** Ten ONES, one within the other, and fifty of them, without the LINE's end. */
    private static final String TEN = "(".repeat(9) + "owner" + ")".repeat(9);
    private static final String FIFTY = "cry 1 if " + TEN + "or" + TEN + ";sell if " + TEN + "and" + TEN + "or" + TEN;

    private BoundsOfTermsTest() {
    }

    public static void main(String[] args) {
        fromTodayTo399();
        fromTodayTo399OnTheLastDay();
        tenTexts();
        faultsAreNotAmongTheTen();
        refusedIsMinusThousand();
        linesFrom0To16();
        tapeIsEmptyThen();
        noneAreToldOfAFault();
        inForceFromItsDayOn();
        latestDayNotBehind();
        likeOnesTheLastTold();
        withoutAnyTheEmptyText();
        emptyTextInForce();
        textsOf300Bytes();
        tokensReadWhole();
        faultAheadOf300();
        blanksAre32And10();
        everyByteBehindAWord();
        wordsOfOneToEightLetters();
        numbersOfOneToFourDigits();
        wordsAndNumbersGoOn();
        everyLineItsForm();
        oweHasNoCond();
        condsTheirForm();
        signsTheirForm();
        everyTokenAtEachPlace();
        endOfTheText();
        numbersAbove1000();
        numbersBehindASign();
        oweToldTwice();
        seventeenthLine();
        fiftyFirstOne();
        eleventhWithin();
        eachTextByItself();
        firstAlongTheText();
        leastOfOneToken();
        faultAheadOfAny();
        faultOfTheLatest();
        faultStaysAtMinusThousand();
        toldOfNoSuchBundle();
        toldOfNoSuchWhat();
        toldWithoutAnyLine();
        toldTheLeastAndTheGreatest();
        backAbove100();
        toldIsOfItsDay();
        firstLineThatHolds();
        factsAtTheirLeast();
        factsAtTheirGreatest();
        weekIsTheRest();
        badgeNotBehindItsDay();
        ownerAsNow();
        weatherOfItsDay();
        condsJoined();
        manyJoined();
        whyAheadOfAny();
        whyOfEachLine();
        whyOfNoLine();
        Check.hadAll(14, 15);
        Check.hadAll(17, 18);
        Check.end();
    }

    /** The text has a FAULT of a kind at a place, as TERMS and when it is tried. */
    private static void faultAt(String text, int place, int kind) {
        PaperBoys x = new PaperBoys();
        Check.same("terms of '" + text + "'", Check.terms(x, 0, text), -1 - place);
        Check.same("fault of '" + text + "'", x.fault(), kind);
        Check.same("TERMS behind '" + text + "'", x.count(3), 0);
        PaperBoys y = new PaperBoys();
        Check.same("tried with '" + text + "'", Check.tried(y, text), -1000000000 - place);
        Check.same("fault of '" + text + "'", y.fault(), kind);
        Check.same("triedEaten behind '" + text + "'", y.triedEaten(), NONE);
    }

    private static void linesOf(String text, int lines) {
        PaperBoys x = new PaperBoys();
        Check.same("terms of '" + text + "'", Check.terms(x, 0, text), lines);
        Check.same("fault of '" + text + "'", x.fault(), 0);
        Check.same("TERMS behind '" + text + "'", x.count(3), 1);
        PaperBoys y = new PaperBoys();
        Check.same("tried with '" + text + "'", Check.tried(y, text), 0);
        Check.same("fault of '" + text + "'", y.fault(), 0);
        Check.same("triedEaten behind '" + text + "'", y.triedEaten(), 0);
    }

    private static String blanks(int n) {
        return " ".repeat(n);
    }

    /** One boy with a bundle of ten copies of paper 0 for corner 1, on DAY 0. */
    private static PaperBoys oneBundle() {
        PaperBoys x = new PaperBoys();
        Check.same("boy", x.boy(10, true, -1, 20), 0);
        Check.same("bundle", x.bundle(0, 0, 1, 10, 5), 0);
        return x;
    }

    private static void fromTodayTo399() {
        Check.promise(14, "-1000: no such DAY (TODAY to 399)");
        PaperBoys x = new PaperBoys();
        for (int day : new int[] {LEAST, -1000, -1, 400, GREATEST}) {
            Check.same("from " + day, Check.terms(x, day, "sell;"), -1000);
        }
        Check.same("none came", x.count(3), 0);
        Check.same("from TODAY", Check.terms(x, 0, "sell;"), 1);
        Check.same("from 399", Check.terms(x, 399, "sell;"), 1);
        Check.closeDays(x, 3);
        Check.same("from 2 on DAY 3", Check.terms(x, 2, "sell;"), -1000);
        Check.same("from 0 on DAY 3", Check.terms(x, 0, "sell;"), -1000);
        Check.same("from 3 on DAY 3", Check.terms(x, 3, "sell;"), 1);
        Check.same("count", x.count(3), 3);
    }

    private static void fromTodayTo399OnTheLastDay() {
        Check.promise(14, "no such DAY, once TODAY is 400");
        PaperBoys x = new PaperBoys();
        Check.closeDays(x, 399);
        Check.same("from 398 on DAY 399", Check.terms(x, 398, "sell;"), -1000);
        Check.same("from 399 on DAY 399", Check.terms(x, 399, "sell;"), 1);
        Check.closeDays(x, 1);
        Check.same("from 399 on TODAY 400", Check.terms(x, 399, "sell;"), -1000);
        Check.same("from 400 on TODAY 400", Check.terms(x, 400, "sell;"), -1000);
        Check.same("count", x.count(3), 1);
    }

    private static void tenTexts() {
        Check.promise(14, "-1000: there are 10");
        PaperBoys x = oneBundle();
        for (int i = 1; i <= 10; i++) {
            Check.same("text " + i, Check.terms(x, 0, "price " + i + ";"), 1);
            Check.same("count", x.count(3), i);
            Check.same("it tells", x.told(0, 0), i);
        }
        Check.same("an eleventh", Check.terms(x, 0, "price 11;"), -1000);
        Check.same("an eleventh from another DAY", Check.terms(x, 399, "price 11;"), -1000);
        Check.same("count", x.count(3), 10);
        Check.same("the tenth tells", x.told(0, 0), 10);
        Check.closeDays(x, 1);
        Check.same("those of closed DAYS count", Check.terms(x, 1, "price 11;"), -1000);
    }

    private static void faultsAreNotAmongTheTen() {
        Check.promise(14, "of a FAULT none are told, so it is none of the 10");
        PaperBoys x = new PaperBoys();
        for (int i = 0; i < 9; i++) {
            Check.same("text", Check.terms(x, 0, ""), 0);
        }
        for (int i = 0; i < 3; i++) {
            Check.same("a FAULT", Check.terms(x, 0, "x"), -1);
        }
        Check.same("the tenth", Check.terms(x, 0, "sell;"), 1);
        Check.same("an eleventh", Check.terms(x, 0, "sell;"), -1000);
    }

    private static void refusedIsMinusThousand() {
        Check.promise(14, "-1000 also for a text with a FAULT");
        PaperBoys x = new PaperBoys();
        Check.same("no such DAY", Check.terms(x, 400, "x"), -1000);
        for (int i = 0; i < 10; i++) {
            Check.same("text", Check.terms(x, 0, ""), 0);
        }
        Check.same("there are 10", Check.terms(x, 0, "x"), -1000);
        Check.same("no FAULT of it", x.fault(), 0);
    }

    private static void linesFrom0To16() {
        Check.promise(14, "how many LINES (16 at most)");
        for (int lines = 0; lines <= 16; lines++) {
            linesOf("sell;".repeat(lines), lines);
        }
        linesOf("price 1;cry 1;back 1;most 1;sell;owe 1;", 6);
        linesOf("\n" + "cry 5 ; ".repeat(16), 16);
    }

    private static void tapeIsEmptyThen() {
        Check.promise(14, "the tape is empty then, whatever it tells");
        PaperBoys x = new PaperBoys();
        Check.same("terms", Check.terms(x, 0, "sell;"), 1);
        Check.same("count", x.count(5), 0);
        Check.same("a FAULT", Check.terms(x, 0, "sell;x"), -6);
        Check.same("count", x.count(5), 0);
        Check.same("no such DAY", Check.terms(x, -1, "sell;"), -1000);
        Check.same("count", x.count(5), 0);
        Check.same("an empty tape is the empty text", x.terms(0), 0);
    }

    private static void noneAreToldOfAFault() {
        Check.promise(14, "-1 less the place of a FAULT: none are told");
        PaperBoys x = oneBundle();
        Check.same("terms", Check.terms(x, 0, "price 7;"), 1);
        Check.same("a FAULT at the end", Check.terms(x, 0, "price 8;cry 9;x"), -15);
        Check.same("count", x.count(3), 1);
        Check.same("price", x.told(0, 0), 7);
        Check.same("cry", x.told(0, 1), 1);
        PaperBoys y = oneBundle();
        Check.same("a FAULT", Check.terms(y, 0, "price 8;x"), -9);
        Check.same("price without TERMS", y.told(0, 0), 60);
    }

    private static void inForceFromItsDayOn() {
        Check.promise(14, "in force from TODAY or a later DAY on");
        PaperBoys x = oneBundle();
        Check.same("from 2", Check.terms(x, 2, "price 22;"), 1);
        Check.closeDays(x, 1);
        Check.same("bundle", x.bundle(0, 0, 1, 10, 5), 1);
        Check.closeDays(x, 1);
        Check.same("bundle", x.bundle(0, 0, 1, 10, 5), 2);
        Check.closeDays(x, 397);
        Check.same("bundle", x.bundle(0, 0, 1, 10, 5), 3);
        int[] due = {60, 60, 22, 22};
        for (int k = 0; k < 4; k++) {
            Check.same("price on DAY " + x.of(k, 0), x.told(k, 0), due[k]);
        }
        Check.same("from 399", Check.terms(x, 399, "price 33;"), 1);
        Check.same("on DAY 399", x.told(3, 0), 33);
        Check.same("on DAY 2 still", x.told(2, 0), 22);
    }

    private static void latestDayNotBehind() {
        Check.promise(14, "on a DAY the one with the latest such DAY not behind it");
        PaperBoys x = oneBundle();
        Check.same("from 3", Check.terms(x, 3, "price 33;"), 1);
        Check.same("from 1", Check.terms(x, 1, "price 11;"), 1);
        Check.same("from 0", Check.terms(x, 0, "price 10;"), 1);
        for (int day = 1; day <= 4; day++) {
            Check.closeDays(x, 1);
            Check.same("bundle", x.bundle(0, 0, 1, 10, 5), day);
        }
        int[] due = {10, 11, 11, 33, 33};
        for (int k = 0; k < 5; k++) {
            Check.same("price on DAY " + k, x.told(k, 0), due[k]);
        }
    }

    private static void likeOnesTheLastTold() {
        Check.promise(14, "of like ones the one told last");
        PaperBoys x = oneBundle();
        Check.same("first", Check.terms(x, 0, "price 1;cry 7;"), 2);
        Check.same("of another DAY", Check.terms(x, 1, "price 9;"), 1);
        Check.same("second", Check.terms(x, 0, "price 2;"), 1);
        Check.same("price", x.told(0, 0), 2);
        Check.same("the first one's cry is of no matter", x.told(0, 1), 1);
        Check.same("third", Check.terms(x, 0, "price 3;"), 1);
        Check.same("price", x.told(0, 0), 3);
    }

    private static void withoutAnyTheEmptyText() {
        Check.promise(14, "without any the empty text");
        PaperBoys x = oneBundle();
        Check.same("terms of tomorrow", Check.terms(x, 1, "price 1;cry 2;back 3;most 4;sell not;owe 5;"), 6);
        int[] due = {60, 1, 0, 200, 1, 100};
        for (int what = 0; what < 6; what++) {
            Check.same("what " + what, x.told(0, what), due[what]);
        }
    }

    private static void emptyTextInForce() {
        Check.promise(14, "an empty text is a text, too");
        PaperBoys x = oneBundle();
        Check.same("terms", Check.terms(x, 0, "price 5;"), 1);
        Check.same("the empty one", Check.terms(x, 0, ""), 0);
        Check.same("price", x.told(0, 0), 60);
        Check.same("count", x.count(3), 2);
    }

    private static void textsOf300Bytes() {
        Check.promise(14, "texts of at most 300 bytes (the end: 300, if there are more and no FAULT is ahead)");
        linesOf(blanks(300), 0);
        faultAt(blanks(301), 300, 1);
        faultAt(blanks(420), 300, 1);
        linesOf(blanks(295) + "sell;", 1);
        faultAt(blanks(296) + "sell;", 300, 1);
        linesOf("sell;" + blanks(295), 1);
        faultAt("sell;" + blanks(296), 300, 1);
        linesOf("sell" + blanks(295) + ";", 1);
        faultAt("sell" + blanks(295) + "; ", 300, 1);
        faultAt("sell" + blanks(296) + ";", 300, 1);
        faultAt(blanks(300) + "sell;", 300, 1);
        faultAt(blanks(300) + "?", 300, 1);
        faultAt("sell;" + blanks(295) + "price 1001;", 300, 1);
        faultAt("owe 1;" + blanks(294) + "owe 1;", 300, 1);
    }

    private static void tokensReadWhole() {
        Check.promise(14, "TOKENS that begin ahead of it are read whole");
        faultAt(blanks(299) + "sell;", 300, 1);
        faultAt(blanks(297) + "sell;", 300, 1);
        faultAt(blanks(299) + "sel;", 299, 1);
        faultAt(blanks(298) + "sellx;", 298, 1);
        faultAt(blanks(297) + "sel1;", 297, 1);
        faultAt("price" + blanks(294) + "1", 300, 1);
        faultAt("price" + blanks(294) + "1;", 300, 1);
        faultAt("price" + blanks(294) + "1000;", 300, 1);
        faultAt("price" + blanks(294) + "1001;", 299, 2);
        faultAt("price" + blanks(294) + "10000;", 299, 1);
        faultAt("price" + blanks(294) + "1a;", 299, 1);
        faultAt("price" + blanks(295) + "1001;", 300, 1);
        faultAt("owe 1;" + blanks(293) + "owe 1;", 299, 3);
        faultAt("owe 1;" + blanks(293) + "owes 1;", 299, 1);
        faultAt("sell;".repeat(16) + blanks(219) + "sell;", 299, 3);
        faultAt("sell;".repeat(16) + blanks(220) + "sell;", 300, 1);
        String deep = "sell if " + "(".repeat(10);
        faultAt(deep + blanks(299 - deep.length()) + "owner;", 299, 4);
        faultAt(deep + blanks(300 - deep.length()) + "owner;", 300, 1);
    }

    private static void faultAheadOf300() {
        Check.promise(14, "a FAULT ahead of byte 300 counts in a text that is too long");
        faultAt("x" + blanks(419), 0, 1);
        faultAt("price 1001;" + blanks(409), 6, 2);
        faultAt("owe 1;owe 1;" + blanks(400), 6, 3);
        faultAt(blanks(299) + "?" + blanks(100), 299, 1);
        faultAt(")".repeat(420), 0, 1);
        faultAt("sell if " + "(".repeat(412), 18, 4);
    }

    private static void blanksAre32And10() {
        Check.promise(14, "TOKENS, with blanks (32, 10) between them or not");
        linesOf("price 5 if ( age < 7 ) and not owner ;", 1);
        linesOf("price\n5\nif\n(\nage\n<\n7\n)\nand\nnot\nowner\n;\n", 1);
        linesOf("price 5if".replace("5if", "5 if") + "(age<7)and not owner;", 1);
        linesOf(" \n sell \n\n ; ", 1);
        for (int b = 0; b < 256; b++) {
            PaperBoys x = new PaperBoys();
            boolean blank = b == 32 || b == 10;
            Check.same("the byte " + b + " alone", Check.tape(x, b).terms(0), blank ? 0 : -1);
            Check.same("its FAULT", x.fault(), blank ? 0 : 1);
        }
    }

    private static void everyByteBehindAWord() {
        Check.promise(14, "what is not as told is no TOKEN");
        for (int b = 0; b < 256; b++) {
            PaperBoys x = new PaperBoys();
            boolean goesOn = b >= 'a' && b <= 'z' || b >= '0' && b <= '9';
            int due = b == 32 || b == 10 ? 1 : goesOn ? -1 : b == ';' ? -6 : -5;
            Check.same("sell, the byte " + b + ", ;", Check.tape(x, 's', 'e', 'l', 'l', b, ';').terms(0), due);
        }
        for (String sign : new String[] {",", ".", ":", "!", "+", "-", "/", "@", "`", "{", "[", "_", "\t", "\r", "\0"}) {
            faultAt("sell" + sign + ";", 4, 1);
            faultAt(sign, 0, 1);
        }
        faultAt("Sell;", 0, 1);
        faultAt("sELL;", 0, 1);
        faultAt("sell;" + (char) 255, 5, 1);
    }

    private static void wordsOfOneToEightLetters() {
        Check.promise(14, "WORDS: small letters, 1 to 8; one that can't come is a FAULT at it");
        for (int n = 1; n <= 12; n++) {
            faultAt("z".repeat(n) + " 1;", 0, 1);
            faultAt("sell if " + "z".repeat(n) + ";", 8, 1);
        }
        for (String kind : KINDS) {
            faultAt(kind.substring(0, kind.length() - 1) + " 1;", 0, 1);
            faultAt(kind + "s 1;", 0, 1);
            faultAt("x" + kind + " 1;", 0, 1);
        }
        for (String fact : FACTS) {
            faultAt("sell if " + fact.substring(0, fact.length() - 1) + "<1;", 8, 1);
            faultAt("sell if " + fact + "z<1;", 8, 1);
        }
        for (String fact : new String[] {"school", "badge", "owner"}) {
            linesOf("sell if " + fact + ";", 1);
            faultAt("sell if " + fact.substring(1) + ";", 8, 1);
            faultAt("sell if " + fact + fact + ";", 8, 1);
        }
    }

    private static void numbersOfOneToFourDigits() {
        Check.promise(14, "NUMBERS: 1 to 4 digits");
        linesOf("price 0;", 1);
        linesOf("price 00;", 1);
        linesOf("price 000;", 1);
        linesOf("price 0000;", 1);
        faultAt("price 00000;", 6, 1);
        faultAt("price 00001;", 6, 1);
        faultAt("price 12345;", 6, 1);
        faultAt("price 4294967297;", 6, 1);
        faultAt("price 18446744073709551617;", 6, 1);
        faultAt("price 9" + "0".repeat(200) + ";", 6, 1);
        linesOf("sell if age<9999;", 1);
        faultAt("sell if age<10000;", 12, 1);
        faultAt("sell if age<00000;", 12, 1);
        PaperBoys x = oneBundle();
        Check.same("terms", Check.terms(x, 0, "price 0090;cry 0009;"), 2);
        Check.same("0090", x.told(0, 0), 90);
        Check.same("0009", x.told(0, 1), 9);
    }

    private static void wordsAndNumbersGoOn() {
        Check.promise(14, "A WORD, NUMBER goes on as long as small letters and digits do");
        faultAt("price5;", 0, 1);
        faultAt("price 5if school;", 6, 1);
        faultAt("price 5x;", 6, 1);
        faultAt("price x5;", 6, 1);
        faultAt("sell if age<5and school;", 12, 1);
        faultAt("sell if schoolor badge;", 8, 1);
        faultAt("sell if notschool;", 8, 1);
        faultAt("sellnot;", 0, 1);
        faultAt("sell1;", 0, 1);
        faultAt("1sell;", 0, 1);
        linesOf("sell if(school)or(badge);", 1);
        linesOf("sell if not(not(age<5));sell not;", 2);
    }

    private static void everyLineItsForm() {
        Check.promise(14, "LINE: 'price' NUMBER [ 'if' COND ] ; and its like");
        for (String kind : new String[] {"price", "cry", "back", "most"}) {
            int at = kind.length() + 1;
            linesOf(kind + " 1;", 1);
            linesOf(kind + " 1 if owner;", 1);
            faultAt(kind + " ;", at, 1);
            faultAt(kind + " if owner;", at, 1);
            faultAt(kind + " not 1;", at, 1);
            faultAt(kind + " 1 1;", at + 2, 1);
            faultAt(kind + " 1 owner;", at + 2, 1);
            faultAt(kind + " 1 if;", at + 4, 1);
            faultAt(kind + " 1 if owner if owner;", at + 11, 1);
            faultAt(kind + "<1;", at - 1, 1);
        }
        linesOf("sell;", 1);
        linesOf("sell not;", 1);
        linesOf("sell not if owner;", 1);
        linesOf("sell if not owner;", 1);
        faultAt("sell 1;", 5, 1);
        faultAt("sell not not;", 9, 1);
        faultAt("sell not owner;", 9, 1);
        faultAt("sell owner;", 5, 1);
        faultAt("sell if;", 7, 1);
        faultAt("sell not if;", 11, 1);
        for (String first : new String[] {";", "(", ")", "<", "=", ">", "1", "if", "not", "and", "or", "school", "age"}) {
            faultAt(first, 0, 1);
            faultAt("sell;" + first + " 1;", 5, 1);
        }
    }

    private static void oweHasNoCond() {
        Check.promise(14, "'owe' NUMBER ; (once)");
        linesOf("owe 1;", 1);
        faultAt("owe 1 if owner;", 6, 1);
        faultAt("owe;", 3, 1);
        faultAt("owe not 1;", 4, 1);
        faultAt("owe 1 1;", 6, 1);
    }

    private static void condsTheirForm() {
        Check.promise(14, "COND: ALL { 'or' ALL }. ALL: ONE { 'and' ONE }. ONE: 'not' ONE | ( COND ) | ..");
        linesOf("sell if owner or school and badge or not owner;", 1);
        faultAt("sell if or owner;", 8, 1);
        faultAt("sell if and owner;", 8, 1);
        faultAt("sell if owner or;", 16, 1);
        faultAt("sell if owner and;", 17, 1);
        faultAt("sell if owner or and owner;", 17, 1);
        faultAt("sell if owner and or owner;", 18, 1);
        faultAt("sell if owner owner;", 14, 1);
        faultAt("sell if owner not owner;", 14, 1);
        faultAt("sell if owner(owner);", 13, 1);
        faultAt("sell if not;", 11, 1);
        faultAt("sell if not or owner;", 12, 1);
        faultAt("sell if ();", 9, 1);
        faultAt("sell if (owner;", 14, 1);
        faultAt("sell if ((owner);", 16, 1);
        faultAt("sell if owner);", 13, 1);
        faultAt("sell if (owner));", 15, 1);
        faultAt("sell if (owner or);", 17, 1);
        faultAt("sell if (not);", 12, 1);
        faultAt("sell if );", 8, 1);
        faultAt("sell if 5;", 8, 1);
        faultAt("sell if if;", 8, 1);
        faultAt("sell if price=5;", 8, 1);
        faultAt("sell if owner if owner;", 14, 1);
    }

    private static void signsTheirForm() {
        Check.promise(14, "( 'age' | .. | 'fists' ) SIGN NUMBER. SIGN: < = >");
        for (String fact : FACTS) {
            int at = 8 + fact.length();
            for (String sign : new String[] {"<", "=", ">"}) {
                linesOf("sell if " + fact + sign + "5;", 1);
                faultAt("sell if " + fact + sign + ";", at + 1, 1);
                faultAt("sell if " + fact + sign + "age;", at + 1, 1);
                faultAt("sell if " + fact + sign + sign + "5;", at + 1, 1);
            }
            faultAt("sell if " + fact + ";", at, 1);
            faultAt("sell if " + fact + " 5;", at + 1, 1);
            faultAt("sell if " + fact + "(5);", at, 1);
            faultAt("sell if 5<" + fact + ";", 8, 1);
        }
        for (String flag : new String[] {"school", "badge", "owner"}) {
            faultAt("sell if " + flag + "=1;", 8 + flag.length(), 1);
        }
        faultAt("sell if age<=5;", 12, 1);
        faultAt("sell if age!5;", 11, 1);
    }

    /** What can come behind a text's beginning; any other TOKEN is a FAULT at it. */
    private static void everyTokenAtEachPlace() {
        Check.promise(14, "1 one that can't come (at it)");
        String lines = " price cry back most sell owe ";
        String ones = " not ( school badge owner age hour week day paper corner copies weather fists ";
        canCome("", lines);
        canCome("sell;", lines);
        for (String kind : new String[] {"price", "cry", "back", "most", "owe"}) {
            canCome(kind + " ", " 5 ");
            canCome(kind + " 5 ", kind.equals("owe") ? " ; " : " if ; ");
        }
        canCome("sell ", " not if ; ");
        canCome("sell not ", " if ; ");
        for (String ahead : new String[] {"", "not ", "( ", "owner and ", "owner or ", "age<5 or ", "(owner) and "}) {
            canCome("sell if " + ahead, ones);
        }
        for (String fact : FACTS) {
            canCome("sell if " + fact + " ", " < = > ");
            canCome("sell if " + fact + " = ", " 5 ");
        }
        for (String one : new String[] {"school", "badge", "owner", "age<5", "(owner)", "not owner", "owner or owner"}) {
            canCome("sell if " + one + " ", " and or ; ");
            canCome("sell if (" + one + " ", " and or ) ");
        }
    }

    private static void canCome(String ahead, String tokens) {
        String all = "price cry back most sell owe if not and or school badge owner age hour week day paper corner copies"
                + " weather fists ; ( ) < = > 5 zzz ? 12345 a5";
        for (String token : all.split(" ")) {
            String text = ahead + token;
            if (!tokens.contains(" " + token + " ")) {
                faultAt(text, ahead.length(), 1);
            } else if (token.equals(";")) {
                linesOf(text, 1);
            } else {
                faultAt(text, text.length(), 1);
            }
        }
    }

    private static void endOfTheText() {
        Check.promise(14, "one that can't come (the end: how many bytes there are)");
        String whole = "price 5 if not ( age < 7 or owner ) and school";
        for (String part : new String[] {"price", "price 5", "price 5 if", "price 5 if not", "price 5 if not (",
            "price 5 if not ( age", "price 5 if not ( age <", "price 5 if not ( age < 7",
            "price 5 if not ( age < 7 or", "price 5 if not ( age < 7 or owner", "price 5 if not ( age < 7 or owner )",
            "price 5 if not ( age < 7 or owner ) and", whole}) {
            faultAt(part, part.length(), 1);
            faultAt(part + " \n ", part.length() + 3, 1);
        }
        linesOf(whole + ";", 1);
        faultAt("owe", 3, 1);
        faultAt("owe 5", 5, 1);
        faultAt("sell", 4, 1);
        faultAt("sell not", 8, 1);
        faultAt("sell" + blanks(295), 299, 1);
        faultAt("sell" + blanks(296), 300, 1);
        faultAt("sell" + blanks(297), 300, 1);
    }

    private static void numbersAbove1000() {
        Check.promise(14, "2 a NUMBER above 1000 (at it)");
        for (String kind : new String[] {"price", "cry", "back", "most", "owe"}) {
            int at = kind.length() + 1;
            linesOf(kind + " 999;", 1);
            linesOf(kind + " 1000;", 1);
            faultAt(kind + " 1001;", at, 2);
            faultAt(kind + " 9999;", at, 2);
            faultAt(kind + " 1001", at, 2);
            faultAt(kind + " 1001?", at, 2);
        }
        faultAt("sell;price 5;cry 1001 if owner;", 17, 2);
    }

    private static void numbersBehindASign() {
        Check.promise(14, "one behind a SIGN may be any");
        for (String fact : FACTS) {
            linesOf("sell if " + fact + "<1001;", 1);
            linesOf("sell if " + fact + "=9999;", 1);
            linesOf("sell if " + fact + ">0;", 1);
        }
        PaperBoys x = oneBundle();
        Check.same("terms", Check.terms(x, 0, "price 7 if copies<9999;cry 7 if copies>9999;back 7 if copies=9999;"), 3);
        Check.same("10 < 9999", x.told(0, 0), 7);
        Check.same("10 > 9999", x.told(0, 1), 1);
        Check.same("10 = 9999", x.told(0, 2), 0);
    }

    private static void oweToldTwice() {
        Check.promise(14, "3 owe told twice (at its WORD)");
        faultAt("owe 5;owe 5;", 6, 3);
        faultAt("owe 5;sell; owe 6;", 12, 3);
        faultAt("owe 5;owe", 6, 3);
        faultAt("owe 5;owe 9999;", 6, 3);
        faultAt("owe 5;owe if", 6, 3);
        faultAt("owe 0;" + "sell;".repeat(14) + "owe 0;", 76, 3);
        faultAt("owe 5;owes 5;", 6, 1);
        linesOf("price 1;price 1;cry 1;cry 1;back 1;back 1;most 1;most 1;sell;sell;owe 1;", 11);
    }

    private static void seventeenthLine() {
        Check.promise(14, "3 a seventeenth LINE (at its WORD)");
        String sixteen = "cry 1;".repeat(15) + "owe 5;";
        linesOf(sixteen, 16);
        linesOf(sixteen + "\n  ", 16);
        for (String kind : KINDS) {
            faultAt(sixteen + kind + " 1;", 96, 3);
            faultAt(sixteen + " " + kind, 97, 3);
        }
        faultAt(sixteen + "sell;sell;", 96, 3);
        faultAt(sixteen + "x", 96, 1);
        faultAt(sixteen + ";", 96, 1);
        faultAt(sixteen + "if", 96, 1);
        faultAt(sixteen + "1001", 96, 1);
    }

    private static void fiftyFirstOne() {
        Check.promise(14, "4 a 51st ONE (at its first TOKEN)");
        int end = FIFTY.length();
        linesOf(FIFTY + ";", 2);
        linesOf(FIFTY + ";price 5;", 3);
        for (String one : new String[] {"owner", "not owner", "(owner)", "age<5", "age", "not", "("}) {
            faultAt(FIFTY + "or " + one + ";", end + 3, 4);
            faultAt(FIFTY + "and " + one + ";", end + 4, 4);
            faultAt(FIFTY + ";sell if " + one + ";", end + 9, 4);
        }
        faultAt(FIFTY + "or x;", end + 3, 1);
        faultAt(FIFTY + "or;", end + 2, 1);
        faultAt(FIFTY + "or 5;", end + 3, 1);
        String fortyNine = FIFTY.replaceFirst("\\(owner\\)", "owner");
        linesOf(fortyNine + "or owner;", 2);
        faultAt(fortyNine + "or not owner;", end + 5, 4);
        faultAt(fortyNine + "or(owner);", end + 1, 4);
        faultAt(fortyNine + "or owner or owner;", end + 10, 4);
        nowFifty(FIFTY + ";");
    }

    /** Fifty ONES in force are looked at, too. */
    private static void nowFifty(String text) {
        PaperBoys x = oneBundle();
        Check.same("terms", Check.terms(x, 0, text + "cry 9;"), 3);
        Check.same("nobody owns", x.told(0, 1), 9);
        Check.yes("owner", x.owner(1, 0));
        Check.same("one owns", x.told(0, 1), 1);
        Check.same("may sell", x.told(0, 4), 1);
        Check.same("by LINE 1", x.why(), 1);
    }

    private static void eleventhWithin() {
        Check.promise(14, "4 an eleventh within (at its first TOKEN)");
        linesOf("sell if " + "not ".repeat(9) + "owner;", 1);
        faultAt("sell if " + "not ".repeat(10) + "owner;", 48, 4);
        faultAt("sell if " + "not ".repeat(11) + "owner;", 48, 4);
        linesOf("sell if " + TEN + ";", 1);
        faultAt("sell if (" + TEN + ");", 18, 4);
        faultAt("sell if not " + TEN + ";", 21, 4);
        linesOf("sell if " + "not(".repeat(4) + "not owner" + ")".repeat(4) + ";", 1);
        faultAt("sell if " + "not(".repeat(5) + "owner" + ")".repeat(5) + ";", 28, 4);
        linesOf("sell if " + TEN + "and " + TEN + ";sell not if " + TEN + ";", 2);
        faultAt("sell if " + TEN + "and (" + TEN + ");", 8 + 23 + 14, 4);
        String nine = "sell if " + "(".repeat(8);
        linesOf(nine + "owner or(school)or owner and not badge" + ")".repeat(8) + ";", 1);
        faultAt(nine + "owner or(not school)" + ")".repeat(8) + ";", 16 + 13, 4);
        faultAt("sell if " + "(".repeat(10) + ";", 18, 1);
        faultAt("sell if " + "(".repeat(10) + "or", 18, 1);
    }

    private static void eachTextByItself() {
        Check.promise(14, "16 LINES, one owe, 50 ONES: of each text, not of all together");
        PaperBoys x = oneBundle();
        for (int i = 0; i < 3; i++) {
            Check.same("16 LINES", Check.terms(x, 0, "sell;".repeat(16)), 16);
            Check.same("owe", Check.terms(x, 0, "owe 5;"), 1);
            Check.same("50 ONES", Check.terms(x, 0, FIFTY + ";"), 2);
            Check.same("51 ONES", Check.terms(x, 0, FIFTY + "or owner;"), -1 - FIFTY.length() - 3);
            Check.same("17 LINES", Check.terms(x, 0, "sell;".repeat(17)), -81);
            Check.same("owe twice", Check.terms(x, 0, "owe 5;owe 5;"), -7);
            Check.same("50 ONES tried", Check.tried(x, FIFTY + ";"), 0);
        }
        Check.same("count", x.count(3), 9);
        PaperBoys y = oneBundle();
        Check.same("cut off in a COND", Check.terms(y, 0, "sell if ((((owner and"), -22);
        Check.same("10 within", Check.terms(y, 0, "sell if " + TEN + ";"), 1);
        Check.same("11 within", Check.terms(y, 0, "sell if (" + TEN + ");"), -19);
    }

    private static void firstAlongTheText() {
        Check.promise(14, "FAULTS, the first along the text");
        faultAt("price 1001;x", 6, 2);
        faultAt("x;price 1001;", 0, 1);
        faultAt("owe 1;owe 1001;x", 6, 3);
        faultAt("owe 1;price 1001;owe 1;", 12, 2);
        faultAt("owe 1;sell if " + "not ".repeat(10) + "owner;owe 1;", 54, 4);
        faultAt("owe 1;owe 1;sell if " + "not ".repeat(10) + "owner;", 6, 3);
        faultAt("sell if " + "not ".repeat(10) + "?", 48, 1);
        faultAt("sell if " + "not ".repeat(11) + "?", 48, 4);
        faultAt("sell price 1001", 5, 1);
    }

    private static void leastOfOneToken() {
        Check.promise(14, "FAULTS, of one TOKEN the least");
        faultAt("1001;", 0, 1);
        faultAt("sell 1001;", 5, 1);
        faultAt("price 5 1001;", 8, 1);
        faultAt("sell if 1001;", 8, 1);
        faultAt("sell;".repeat(16) + "1001;", 80, 1);
        faultAt("sell;".repeat(16) + "school;", 80, 1);
        faultAt(FIFTY + "or 1001;", FIFTY.length() + 3, 1);
        faultAt("sell if " + "(".repeat(10) + "1001;", 18, 1);
        faultAt("sell if " + "(".repeat(10) + ");", 18, 1);
        faultAt("owe 1;" + "sell;".repeat(15) + "owe 1;", 81, 3);
    }

    private static void faultAheadOfAny() {
        Check.promise(15, "0 without one and ahead of any");
        PaperBoys x = new PaperBoys();
        Check.same("ahead of any", x.fault(), 0);
        Check.same("no such DAY", Check.terms(x, 400, "x"), -1000);
        Check.same("ahead of any that counts", x.fault(), 0);
        Check.same("without one", Check.terms(x, 0, ""), 0);
        Check.same("without one", x.fault(), 0);
    }

    private static void faultOfTheLatest() {
        Check.promise(15, "The kind of the FAULT of the latest terms() or tried()");
        String[] texts = {"x", "price 1001;", "owe 1;owe 1;", "sell if " + "not ".repeat(10) + "owner;"};
        PaperBoys x = new PaperBoys();
        for (int i = 0; i < 4; i++) {
            Check.yes("terms", Check.terms(x, 0, texts[i]) < 0);
            Check.same("of terms()", x.fault(), i + 1);
            Check.same("asked for again", x.fault(), i + 1);
            Check.yes("tried", Check.tried(x, texts[3 - i]) < -999999999);
            Check.same("of tried()", x.fault(), 4 - i);
        }
        Check.same("terms", Check.terms(x, 0, "sell;"), 1);
        Check.same("without one", x.fault(), 0);
        Check.yes("terms", Check.terms(x, 0, "x") < 0);
        Check.same("tried", Check.tried(x, ""), 0);
        Check.same("without one", x.fault(), 0);
    }

    private static void faultStaysAtMinusThousand() {
        Check.promise(15, "that did not tell -1000");
        PaperBoys x = new PaperBoys();
        Check.same("a FAULT", Check.terms(x, 0, "price 1001;"), -7);
        Check.same("no such DAY", Check.terms(x, -1, "x"), -1000);
        Check.same("it stays", x.fault(), 2);
        Check.same("no such DAY", Check.terms(x, 400, "sell;"), -1000);
        Check.same("it stays", x.fault(), 2);
        for (int i = 0; i < 10; i++) {
            Check.same("text", Check.terms(x, 0, ""), 0);
        }
        Check.same("there are 10", Check.terms(x, 0, "x"), -1000);
        Check.same("it stays", x.fault(), 0);
        Check.same("tried", Check.tried(x, "owe 1;owe 1;"), -1000000006);
        Check.same("there are 10", Check.terms(x, 0, "sell;"), -1000);
        Check.same("it stays", x.fault(), 3);
    }

    private static void toldOfNoSuchBundle() {
        Check.promise(17, "NONE: no such one");
        PaperBoys x = new PaperBoys();
        Check.same("without any", x.told(0, 0), NONE);
        PaperBoys y = oneBundle();
        for (int k : new int[] {LEAST, -1, 1, 199, 200, GREATEST}) {
            Check.same("told of " + k, y.told(k, 0), NONE);
        }
        Check.same("of the last one", y.told(0, 0), 60);
        Check.same("a refused one", y.bundle(0, 0, 1, 201, 5), NONE);
        Check.same("is none", y.told(1, 0), NONE);
    }

    private static void toldOfNoSuchWhat() {
        Check.promise(17, "NONE: no such what (0 to 5)");
        PaperBoys x = oneBundle();
        for (int what : new int[] {LEAST, -1, 6, GREATEST}) {
            Check.same("what " + what, x.told(0, what), NONE);
        }
        Check.same("what 0", x.told(0, 0), 60);
        Check.same("what 5", x.told(0, 5), 100);
    }

    private static void toldWithoutAnyLine() {
        Check.promise(17, "without any: price 60, cry 1, back 0, most 200, one may sell; owe 100");
        int[] due = {60, 1, 0, 200, 1, 100};
        for (int kind = 0; kind < 6; kind++) {
            PaperBoys x = oneBundle();
            StringBuilder others = new StringBuilder();
            for (int other = 0; other < 6; other++) {
                if (other != kind) {
                    others.append(KINDS[other]).append(other == 4 ? " not;" : " 77;");
                }
            }
            Check.same("terms", Check.terms(x, 0, others.toString()), 5);
            for (int what = 0; what < 6; what++) {
                Check.same("without " + KINDS[kind] + ", what " + what, x.told(0, what),
                        what == kind ? due[what] : what == 4 ? 0 : 77);
            }
        }
        PaperBoys x = oneBundle();
        Check.same("no COND holds", Check.terms(x, 0, "price 1 if owner;cry 2 if owner;back 3 if owner;"
                + "most 4 if owner;sell not if owner;"), 5);
        for (int what = 0; what < 6; what++) {
            Check.same("what " + what, x.told(0, what), due[what]);
        }
    }

    private static void toldTheLeastAndTheGreatest() {
        Check.promise(17, "0 price, 1 cry, 2 back, 3 most, 4 whether it may be sold (1, 0), 5 owe");
        PaperBoys x = oneBundle();
        Check.same("terms", Check.terms(x, 0, "price 0;cry 0;back 0;most 0;sell not;owe 0;"), 6);
        for (int what = 0; what < 6; what++) {
            Check.same("the least of " + what, x.told(0, what), 0);
        }
        Check.same("terms", Check.terms(x, 0, "price 1000;cry 1000;back 100;most 1000;sell;owe 1000;"), 6);
        int[] due = {1000, 1000, 100, 1000, 1, 1000};
        for (int what = 0; what < 6; what++) {
            Check.same("the greatest of " + what, x.told(0, what), due[what]);
        }
    }

    private static void backAbove100() {
        Check.promise(17, "back: above 100 is as 100");
        for (int back : new int[] {99, 100, 101, 1000}) {
            PaperBoys x = oneBundle();
            Check.same("terms", Check.terms(x, 0, "back " + back + ";"), 1);
            Check.same("back " + back, x.told(0, 2), Math.min(back, 100));
            Check.same("its LINE", x.why(), 0);
            Check.same("close", x.close(), 0);
            Check.same("BACK of ten", x.of(0, 2), back == 99 ? 9 : 10);
            Check.same("EATEN", x.of(0, 3), back == 99 ? 1 : 0);
        }
    }

    private static void toldIsOfItsDay() {
        Check.promise(17, "What TERMS (of its DAY) tell of a BUNDLE");
        PaperBoys x = oneBundle();
        Check.same("from 0", Check.terms(x, 0, "price 10;"), 1);
        Check.closeDays(x, 1);
        Check.same("from 1", Check.terms(x, 1, "price 11;"), 1);
        Check.same("bundle", x.bundle(0, 0, 1, 10, 5), 1);
        Check.same("of DAY 0", x.told(0, 0), 10);
        Check.same("of DAY 1", x.told(1, 0), 11);
        Check.closeDays(x, 399);
        Check.same("TODAY", x.count(0), 400);
        Check.same("of DAY 0", x.told(0, 0), 10);
        Check.same("of DAY 1", x.told(1, 0), 11);
    }

    private static void firstLineThatHolds() {
        Check.promise(17, "The first LINE of a kind whose COND holds, or that has none, tells");
        PaperBoys x = oneBundle();
        Check.same("terms", Check.terms(x, 0, "price 1 if owner;price 2 if age=10;price 3 if school;price 4;"), 4);
        Check.same("the second", x.told(0, 0), 2);
        Check.yes("owner", x.owner(1, 0));
        Check.same("the first", x.told(0, 0), 1);
        Check.same("terms", Check.terms(x, 0, "price 4;price 1 if owner;"), 2);
        Check.same("the one without a COND, ahead", x.told(0, 0), 4);
        Check.same("terms", Check.terms(x, 0, "sell not if owner;sell;"), 2);
        Check.same("may not", x.told(0, 4), 0);
        Check.same("terms", Check.terms(x, 0, "sell if owner;sell not;"), 2);
        Check.same("may", x.told(0, 4), 1);
    }

    /** Whether a COND holds for a bundle of the boy with these numbers (in the order of FACTS). */
    private static void holds(int[] fact, String cond, boolean due) {
        PaperBoys x = new PaperBoys();
        Check.same("boy", x.boy(fact[0], false, -1, fact[8]), 0);
        Check.closeDays(x, fact[3]);
        byte[] row = new byte[400];
        java.util.Arrays.fill(row, (byte) fact[7]);
        Check.yes("weather", Check.tape(x, row).weather());
        Check.same("terms", Check.terms(x, fact[3], "price 0;most 1000;"), 2);
        Check.same("bundle", x.bundle(0, fact[4], fact[5], fact[6], fact[1]), 0);
        Check.same("terms", Check.terms(x, fact[3], "price 111 if " + cond + ";price 222;"), 2);
        Check.same("price, if " + cond, x.told(0, 0), due ? 111 : 222);
    }

    private static void signsHold(int[] fact, int i) {
        int value = fact[i];
        holds(fact, FACTS[i] + "=" + value, true);
        holds(fact, FACTS[i] + "<" + value, false);
        holds(fact, FACTS[i] + ">" + value, false);
        holds(fact, FACTS[i] + "<" + (value + 1), true);
        holds(fact, FACTS[i] + "=" + (value + 1), false);
        holds(fact, FACTS[i] + ">" + (value + 1), false);
        if (value > 0) {
            holds(fact, FACTS[i] + ">" + (value - 1), true);
            holds(fact, FACTS[i] + "=" + (value - 1), false);
            holds(fact, FACTS[i] + "<" + (value - 1), false);
        }
    }

    private static void factsAtTheirLeast() {
        Check.promise(17, "AGE, FISTS, HOUR, DAY, WEEK, PAPER, CORNER, COPIES, WEATHER at their least");
        for (int i = 0; i < 9; i++) {
            signsHold(new int[] {6, 4, 0, 0, 0, 0, 1, 0, 0}, i);
        }
    }

    private static void factsAtTheirGreatest() {
        Check.promise(17, "AGE, FISTS, HOUR, DAY, WEEK, PAPER, CORNER, COPIES, WEATHER at their greatest");
        for (int i = 0; i < 9; i++) {
            signsHold(new int[] {18, 20, 0, 399, 3, 9, 1000, 3, 99}, i);
        }
    }

    private static void weekIsTheRest() {
        Check.promise(17, "WEEK (DAY by 7, the rest)");
        int[][] dayAndWeek = {{0, 0}, {1, 1}, {6, 6}, {7, 0}, {8, 1}, {13, 6}, {14, 0}, {398, 6}};
        for (int[] pair : dayAndWeek) {
            signsHold(new int[] {10, 10, pair[1], pair[0], 1, 1, 10, 1, 10}, 2);
        }
    }

    private static void badgeNotBehindItsDay() {
        Check.promise(17, "BADGE (not behind its DAY), SCHOOL");
        PaperBoys x = new PaperBoys();
        Check.same("boy", x.boy(10, true, 1, 0), 0);
        Check.same("boy", x.boy(10, false, 399, 0), 1);
        Check.same("terms", Check.terms(x, 0, "price 11 if badge;price 22;cry 5 if school;cry 6;"), 4);
        for (int day = 0; day < 3; day++) {
            Check.same("bundle", x.bundle(0, 0, 0, 1, 5), 2 * day);
            Check.same("bundle", x.bundle(1, 0, 0, 1, 5), 2 * day + 1);
            Check.same("up to 1, on DAY " + day, x.told(2 * day, 0), day <= 1 ? 11 : 22);
            Check.same("up to 399, on DAY " + day, x.told(2 * day + 1, 0), 11);
            Check.same("in SCHOOL", x.told(2 * day, 1), 5);
            Check.same("not in SCHOOL", x.told(2 * day + 1, 1), 6);
            Check.closeDays(x, 1);
        }
        Check.closeDays(x, 396);
        Check.same("bundle", x.bundle(1, 0, 0, 1, 5), 6);
        Check.same("up to 399, on DAY 399", x.told(6, 0), 11);
    }

    private static void ownerAsNow() {
        Check.promise(17, "whether one is OWNER of its CORNER (as now)");
        PaperBoys x = oneBundle();
        Check.same("terms", Check.terms(x, 0, "price 11 if owner;price 22;"), 2);
        Check.same("nobody", x.told(0, 0), 22);
        Check.yes("another CORNER", x.owner(0, 0));
        Check.same("not its CORNER", x.told(0, 0), 22);
        Check.yes("its CORNER", x.owner(1, 0));
        Check.same("as now", x.told(0, 0), 11);
        Check.closeDays(x, 5);
        Check.same("behind CLOSE", x.told(0, 0), 11);
        Check.yes("nobody", x.owner(1, -1));
        Check.same("as now, not as then", x.told(0, 0), 22);
    }

    private static void weatherOfItsDay() {
        Check.promise(17, "WEATHER of its DAY");
        PaperBoys x = oneBundle();
        Check.same("terms", Check.terms(x, 0, "price 1 if weather<1;price 2 if weather<2;price 3 if weather<3;price 4;"), 4);
        Check.same("without a row 0", x.told(0, 0), 1);
        Check.closeDays(x, 1);
        Check.same("bundle", x.bundle(0, 0, 1, 10, 5), 1);
        Check.yes("weather", Check.tape(x, 2).weather());
        Check.same("of DAY 0", x.told(0, 0), 3);
        Check.same("behind its end 3", x.told(1, 0), 4);
        Check.yes("weather", Check.tape(x, 1, 255).weather());
        Check.same("of DAY 0", x.told(0, 0), 2);
        Check.same("as the DAY ahead", x.told(1, 0), 2);
    }

    private static void joined(String cond, boolean due) {
        PaperBoys x = oneBundle();
        Check.same("terms", Check.terms(x, 0, "price 111 if " + cond + ";price 222;"), 2);
        Check.same("price, if " + cond, x.told(0, 0), due ? 111 : 222);
    }

    /** Of the bundle school holds, owner and badge do not. */
    private static void condsJoined() {
        Check.promise(17, "COND: 'and' goes ahead of 'or', 'not' ahead of both");
        joined("school", true);
        joined("owner", false);
        joined("not owner", true);
        joined("not not owner", false);
        joined("school or owner and owner", true);
        joined("(school or owner)and owner", false);
        joined("owner and owner or school", true);
        joined("owner and(owner or school)", false);
        joined("not owner or school", true);
        joined("not(owner or school)", false);
        joined("not owner and owner", false);
        joined("not(owner and owner)", true);
        joined("not school or owner", false);
        joined("owner or badge or school", true);
        joined("owner or badge or owner", false);
        joined("school and school and owner", false);
        joined("school and not owner and not badge", true);
        joined("school and school or owner and badge or owner", true);
        joined("owner or(owner or(owner or(owner or(owner or(owner or(owner or(owner or(owner or(school)))))))))"
                .replace("(school)", " school"), true);
        joined("school and(owner or(school and(owner or(school and(owner or(school and(owner or(school and school"
                + "))))))))", true);
        joined("school and(owner or(school and(owner or(school and(owner or(school and(owner or(school and owner"
                + "))))))))", false);
        joined("not ".repeat(9) + "owner", true);
        joined("not ".repeat(8) + "owner", false);
    }

    private static void manyJoined() {
        Check.promise(17, "as many ONES joined as a text of 300 bytes holds");
        joined("owner or ".repeat(30) + "school", true);
        joined("owner or ".repeat(30) + "badge", false);
        joined("school and ".repeat(24) + "school", true);
        joined("school and ".repeat(24) + "owner", false);
        joined("not not owner or ".repeat(15) + "school", true);
        joined("not not owner or ".repeat(15) + "badge", false);
        joined("not school or ".repeat(18) + "not badge", true);
        joined("not school or ".repeat(18) + "not school", false);
        PaperBoys x = oneBundle();
        for (int i = 0; i < 5; i++) {
            Check.same("text " + i, Check.terms(x, 0, "price " + i + " if " + "owner or ".repeat(30) + "school;"), 1);
            Check.same("price", x.told(0, 0), i);
            Check.same("a FAULT at its end", Check.terms(x, 0, "price 9 if " + "owner or ".repeat(30) + "x;"), -282);
            Check.same("price", x.told(0, 0), i);
        }
    }

    private static void whyAheadOfAny() {
        Check.promise(18, "NONE: ahead of any");
        PaperBoys x = oneBundle();
        Check.same("terms", Check.terms(x, 0, "price 5;cry 5;"), 2);
        Check.same("bundle", x.bundle(0, 0, 1, 10, 5), 1);
        Check.same("close", x.close(), 0);
        Check.same("tried", Check.tried(x, "price 0;cry 5;"), 0);
        Check.same("ahead of any told()", x.why(), NONE);
    }

    private static void whyOfEachLine() {
        Check.promise(18, "The LINE (0 the first one) that told that");
        for (int line = 0; line < 16; line++) {
            PaperBoys x = oneBundle();
            Check.same("terms", Check.terms(x, 0, "cry 7 if owner;".repeat(line) + "cry 9;"
                    + "cry 8;".repeat(15 - line)), 16);
            Check.same("cry", x.told(0, 1), 9);
            Check.same("why", x.why(), line);
            Check.same("asked for again", x.why(), line);
        }
        PaperBoys x = oneBundle();
        Check.same("terms", Check.terms(x, 0, "owe 5;sell;most 4;back 3;cry 2;price 1;"), 6);
        for (int what = 0; what < 6; what++) {
            Check.yes("told", x.told(0, what) >= 0);
            Check.same("why of " + what, x.why(), 5 - what);
        }
    }

    private static void whyOfNoLine() {
        Check.promise(18, "NONE: none");
        PaperBoys x = oneBundle();
        Check.same("terms", Check.terms(x, 0, "price 5;cry 9 if owner;"), 2);
        Check.same("price", x.told(0, 0), 5);
        Check.same("a LINE", x.why(), 0);
        Check.same("cry", x.told(0, 1), 1);
        Check.same("no COND holds", x.why(), NONE);
        Check.same("price", x.told(0, 0), 5);
        Check.same("back", x.told(0, 2), 0);
        Check.same("no LINE of the kind", x.why(), NONE);
        Check.same("price", x.told(0, 0), 5);
        Check.same("no such BUNDLE", x.told(1, 0), NONE);
        Check.same("none told that", x.why(), NONE);
        Check.same("price", x.told(0, 0), 5);
        Check.same("no such what", x.told(0, 6), NONE);
        Check.same("none told that", x.why(), NONE);
    }
}
