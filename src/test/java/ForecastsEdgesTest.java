/** Section 4 and promises 20 to 27, sentence by sentence: each that names an edge has a test of its own. */
public final class ForecastsEdgesTest {
    private static final int UNKNOWN = QuakeLists.UNKNOWN, OUTSIDE = QuakeLists.OUTSIDE;
    private static final int FULL = QuakeLists.FULL, NO = QuakeLists.NO, NONE = QuakeLists.NONE;
    private static final long LOST = QuakeLists.LOST;
    private static final Due DUE = new Due("ForecastsEdgesTest");

    public static void main(String[] args) {
        upTo48Signs();
        codes33To126();
        wipeTellsHowManyThereWere();
        sixForecasts();
        signsAreEmptyThen();
        forecastOfAFault();
        forecastIsFullAheadOfNo();
        numbersOfOneToFourDigits();
        eachSignInItsTurn();
        theFirstFaultOfSeveral();
        theFaultBehindTheLastSign();
        noFault();
        theFaultOf48Signs();
        tellsTheFirstRule();
        tellsOfMoreThanN();
        tellsOfMOrMore();
        tellsOfDDaysAhead();
        tellsOfWhatWasKnownTheDayAhead();
        tellsOfNoBlasts();
        tellsTheLastNumber();
        tellsThousandAtMost();
        tellsOnTheFirstAndLastDay();
        tellsByNumbersOfFourDigits();
        tellsByFiveRules();
        tellsRefuses();
        scoreOfBothEnds();
        scoreIfThereIsAQuake();
        scoreWheneverTold();
        scoreOfNoBlasts();
        scoreOfAllDays();
        scoreRefuses();
        mixedByZeroToTen();
        mixedIsCut();
        mixedOfRules();
        mixedRefuses();
        bestIsTheLeastSuch();
        bestAtEnds();
        bestRefuses();
        DUE.end();
    }

    private static void due(String call, long got, long want) {
        DUE.due(call, got, want);
    }

    private static int forecast(QuakeLists x, String text) {
        return Sample.forecast(x, text);
    }

    private static QuakeLists with(String... texts) {
        QuakeLists x = new QuakeLists();
        for (String text : texts) {
            forecast(x, text);
        }
        return x;
    }

    private static int add(QuakeLists x, int day, int greatness) {
        return x.quake(0, day, 0, 0, greatness, day);
    }

    private static void upTo48Signs() {
        DUE.sentence("FORECASTS are texts of up to 48 signs; A sign more: how many. OUTSIDE; FULL");
        QuakeLists x = new QuakeLists();
        for (int i = 1; i <= 48; i++) {
            due("sign " + i, x.say('!'), i);
        }
        due("sign 49", x.say('!'), FULL);
        due("sign 49, outside", x.say(127), OUTSIDE);
        due("sign 49, outside", x.say(32), OUTSIDE);
        due("48 all the same", x.told(1), 48);
        due("wipe", x.wipe(), 48);
        due("room again", x.say('!'), 1);
    }

    private static void codes33To126() {
        DUE.sentence("(codes 33 to 126)");
        QuakeLists x = new QuakeLists();
        due("32", x.say(32), OUTSIDE);
        due("127", x.say(127), OUTSIDE);
        due("0", x.say(0), OUTSIDE);
        due("-1", x.say(-1), OUTSIDE);
        due("none there", x.told(1), 0);
        due("33", x.say(33), 1);
        due("126", x.say(126), 2);
        due("256 and 49 is no 1", x.say(256 + '1'), OUTSIDE);
        for (int sign = 33; sign <= 126; sign++) {
            x.wipe();
            due("sign " + sign, x.say(sign), 1);
        }
    }

    private static void wipeTellsHowManyThereWere() {
        DUE.sentence("Signs go: how many there were");
        QuakeLists x = new QuakeLists();
        due("none", x.wipe(), 0);
        Sample.say(x, "7,");
        due("two", x.wipe(), 2);
        due("none again", x.wipe(), 0);
        due("the fault is at 0", x.fault(), 0);
        Sample.say(x, "5");
        due("what was wiped is gone", x.forecast(), 0);
        due("it tells 5", x.tells(0, 0), 5);
        due("wipe leaves forecasts", x.wipe(), 0);
        due("it is still there", x.told(2), 1);
    }

    private static void sixForecasts() {
        DUE.sentence("FORECASTS .. 6 at most, numbered from 0 on");
        QuakeLists x = new QuakeLists();
        for (int f = 0; f < 6; f++) {
            due("there is none of number " + f, x.tells(f, 0), UNKNOWN);
            due("forecast " + f, forecast(x, "" + (10 + f)), f);
            due("it tells", x.tells(f, 0), 10 + f);
        }
        due("the 7th", forecast(x, "99"), FULL);
        due("its signs stay", x.told(1), 2);
        due("and have no fault", x.fault(), NONE);
        due("six all the same", x.told(2), 6);
        due("number 6", x.tells(6, 0), UNKNOWN);
        for (int f = 0; f < 6; f++) {
            due("it tells as it did", x.tells(f, 0), 10 + f);
        }
    }

    private static void signsAreEmptyThen() {
        DUE.sentence("A FORECAST of the signs (they are empty then): its number");
        QuakeLists x = new QuakeLists();
        Sample.say(x, "12");
        due("forecast", x.forecast(), 0);
        due("no signs", x.told(1), 0);
        due("wipe", x.wipe(), 0);
        due("the fault is at 0", x.fault(), 0);
        due("none to make another of", x.forecast(), NO);
        due("the first sign", x.say('3'), 1);
        due("the next forecast", x.forecast(), 1);
        due("the first tells", x.tells(0, 0), 12);
        due("the second tells", x.tells(1, 0), 3);
    }

    private static void forecastOfAFault() {
        DUE.sentence("NO: there is a FAULT");
        String[] texts = {"", "x", "7,", "7,3>0:9;", "12345", "7;"};
        for (String text : texts) {
            QuakeLists x = new QuakeLists();
            due("forecast of " + text, forecast(x, text), NO);
            due("its signs stay", x.told(1), text.length());
            due("there is none", x.told(2), 0);
            due("none tells", x.tells(0, 0), UNKNOWN);
        }
    }

    private static void forecastIsFullAheadOfNo() {
        DUE.sentence("the first of these that fits: .. FULL, NO");
        QuakeLists x = with("0", "1", "2", "3", "4");
        due("five, and a fault", x.forecast(), NO);
        due("the sixth", forecast(x, "5"), 5);
        due("six, and a fault", x.forecast(), FULL);
        due("six, and a fault in signs", forecast(x, "x"), FULL);
        due("the sign stays", x.told(1), 1);
    }

    private static void fault(String text, int want) {
        QuakeLists x = new QuakeLists();
        Sample.say(x, text);
        due("fault of " + text, x.fault(), want);
        due("signs of " + text, x.told(1), text.length());
        due("forecast of " + text, x.forecast(), want == NONE ? 0 : NO);
    }

    private static void numbersOfOneToFourDigits() {
        DUE.sentence("(numbers of 1 to 4 digits each)");
        String[] ahead = {"", "7,", "7,3>", "7,3>1:", "7,3>1:2;", "7,3>1:2;5,", "7,3>1:2;5,6>"};
        String[] behind = {"", ",", ">", ":", ";", "", ",", ">"};
        String[] ends = {",", ">", ":", ";", ",", ">", ":"};
        for (int i = 0; i < ahead.length; i++) {
            int start = ahead[i].length();
            boolean mayEnd = i % 4 == 0;
            fault(ahead[i], start);
            fault(ahead[i] + ends[i], start);
            fault(ahead[i] + "1", mayEnd ? NONE : start + 1);
            fault(ahead[i] + "9999", mayEnd ? NONE : start + 4);
            fault(ahead[i] + "0000", mayEnd ? NONE : start + 4);
            fault(ahead[i] + "00000", start + 4);
            fault(ahead[i] + "99999" + behind[i], start + 4);
            fault(ahead[i] + "1" + ends[i], start + 2);
            fault(ahead[i] + "9999" + ends[i], start + 5);
        }
    }

    /** Behind a digit one sign alone may end the number, and digits may go on. */
    private static void eachSignInItsTurn() {
        DUE.sentence("RULES, each behind the other, then a number: a RULE: DAYS d, a comma, m, a >, n, a :, p, a ;");
        String[] ahead = {"7", "7,3", "7,3>1", "7,3>1:2", "7,3>1:2;5"};
        char[] ends = {',', '>', ':', ';', ','};
        for (int i = 0; i < ahead.length; i++) {
            int place = ahead[i].length();
            boolean mayEnd = i % 4 == 0;
            for (char sign = 33; sign <= 126; sign++) {
                boolean isDigit = sign >= '0' && sign <= '9';
                int goesOn = isDigit && mayEnd ? NONE : place + 1;
                fault(ahead[i] + sign, isDigit || sign == ends[i] ? goesOn : place);
            }
        }
        for (char sign = 33; sign <= 126; sign++) {
            fault("" + sign, sign >= '0' && sign <= '9' ? NONE : 0);
        }
        // the signs beside the digits
        fault("/", 0);
        fault(":", 0);
    }

    private static void theFirstFaultOfSeveral() {
        DUE.sentence("THE FAULT: the first place (from 0 on) at which no sign could make a text go on as it stands");
        fault("xx", 0);
        fault("7x,x", 1);
        fault("7,,3>>", 2);
        fault("12345,99999", 4);
        fault("7,3>1:2;5;5;", 9);
        fault("7,3>1:2;x", 8);
        fault("7,3>1:2;5x", 9);
        fault("7,3>1:2;5,x", 10);
        fault("-7", 0);
        fault("7,-3", 2);
    }

    private static void theFaultBehindTheLastSign() {
        DUE.sentence("(behind the last sign: their number)");
        fault("", 0);
        fault("7,", 2);
        fault("7,3", 3);
        fault("7,3>", 4);
        fault("7,3>1", 5);
        fault("7,3>1:", 6);
        fault("7,3>1:2", 7);
        fault("7,3>1:2;", 8);
        fault("7,3>1:2;5,", 10);
    }

    private static void noFault() {
        DUE.sentence("THE FAULT of the signs that are there; NONE");
        fault("0", NONE);
        fault("9999", NONE);
        fault("7,3>1:2;5", NONE);
        fault("0,0>0:0;0", NONE);
        fault("7,3>1:2;5,3>1:2;5", NONE);
        fault("1111,2222>3333:4444;5555", NONE);
        fault("1111,2222>3333:4444;1111,2222>3333:4444;1234", NONE);
    }

    /** The limit of 48 signs is no fault by itself: what could go on but for it has its fault behind the last sign. */
    private static void theFaultOf48Signs() {
        String five = "1,2>3:4;1,2>3:4;1,2>3:4;1,2>3:4;1,2>3:4;";
        fault(five, 40);
        fault(five + "5", NONE);
        fault(five + "5555", NONE);
        fault(five + "55555", 44);
        fault(five + "5555,222", 48);
        fault(five + "1,2>3:4;", 48);
        fault(five + "1,2>3:44", 48);
        fault(five + "1,2>3:4x", 47);
        fault("11,2>3:4;11,2>3:4;11,2>3:4;11,2>3:4;1,2>3:4;4444", NONE);
        QuakeLists x = new QuakeLists();
        Sample.say(x, "11,2>3:4;11,2>3:4;11,2>3:4;11,2>3:4;1,2>3:4;4444");
        due("48 signs", x.told(1), 48);
        due("no sign more", x.say('4'), FULL);
        due("no fault", x.fault(), NONE);
        due("a forecast of 48 signs", x.forecast(), 0);
        due("it tells 1000 at most", x.tells(0, 0), 1000);
    }

    private static void tellsTheFirstRule() {
        DUE.sentence("p of the first RULE by which ..");
        QuakeLists x = with("5,30>0:100;5,30>0:200;3", "5,40>0:100;5,30>0:200;3", "5,40>0:100;5,40>0:200;3");
        forecast(x, "5,30>0:0;3");
        add(x, 10, 30);
        due("the first of two that fit", x.tells(0, 11), 100);
        due("the second", x.tells(1, 11), 200);
        due("none", x.tells(2, 11), 3);
        due("one that tells 0", x.tells(3, 11), 0);
    }

    private static void tellsOfMoreThanN() {
        DUE.sentence("more than n QUAKES");
        QuakeLists x = with("5,0>0:9;1", "5,0>1:9;1", "5,0>2:9;1", "5,0>39:9;1", "5,0>40:9;1", "5,0>9999:9;1");
        due("none, more than 0", x.tells(0, 11), 1);
        add(x, 10, 0);
        due("one, more than 0", x.tells(0, 11), 9);
        due("one, more than 1", x.tells(1, 11), 1);
        add(x, 10, 0);
        due("two, more than 1", x.tells(1, 11), 9);
        due("two, more than 2", x.tells(2, 11), 1);
        for (int i = 2; i < 39; i++) {
            add(x, 10, 0);
        }
        due("39, more than 39", x.tells(3, 11), 1);
        add(x, 10, 0);
        due("40, more than 39", x.tells(3, 11), 9);
        due("40, more than 40", x.tells(4, 11), 1);
        due("40, more than 9999", x.tells(5, 11), 1);
    }

    private static void tellsOfMOrMore() {
        DUE.sentence("of GREATNESS m or more");
        QuakeLists x = with("5,30>0:9;1", "5,31>0:9;1", "5,90>0:9;1", "5,91>0:9;1", "5,0>0:9;1");
        add(x, 10, 30);
        due("m", x.tells(0, 11), 9);
        due("m less 1", x.tells(1, 11), 1);
        due("0", x.tells(4, 11), 9);
        x.mend(0, 90);
        due("90 of 90", x.tells(2, 11), 9);
        due("90 of 91", x.tells(3, 11), 1);
        x.mend(0, 0);
        due("0 of 0", x.tells(4, 11), 9);
        due("0 of 30", x.tells(0, 11), 1);
    }

    private static void tellsOfDDaysAhead() {
        DUE.sentence("were on the d DAYS ahead of it");
        QuakeLists x = with("0,0>0:9;1", "1,0>0:9;1", "3,0>0:9;1", "9999,0>0:9;1");
        add(x, 10, 30);
        int[] days = {0, 1, 3};
        for (int f = 0; f < 3; f++) {
            for (int day = 5; day < 20; day++) {
                boolean isAhead = day > 10 && day - 10 <= days[f];
                due(days[f] + " days ahead of " + day, x.tells(f, day), isAhead ? 9 : 1);
            }
        }
        due("its own day", x.tells(3, 10), 1);
        due("all days ahead of the last one", x.tells(3, 3999), 9);
    }

    private static void tellsOfWhatWasKnownTheDayAhead() {
        DUE.sentence("KNOWN the DAY ahead");
        QuakeLists x = with("9,0>0:9;1", "1,0>0:9;1");
        x.quake(0, 10, 0, 0, 30, 14);
        due("told on the day itself", x.tells(0, 14), 1);
        due("told the day ahead", x.tells(0, 15), 9);
        due("told, and nine days ahead", x.tells(0, 19), 9);
        due("told, and ten days ahead", x.tells(0, 20), 1);
        due("when it was told it was too long ago", x.tells(1, 15), 1);
        due("when it was near it was not told", x.tells(1, 11), 1);
    }

    private static void tellsOfNoBlasts() {
        DUE.sentence("QUAKES, no BLASTS");
        QuakeLists x = with("9,0>0:9;1", "9,0>1:9;1");
        add(x, 10, 30);
        x.quake(2, 10, 15, 15, 30, 10);
        due("of all lists and cells", x.tells(1, 11), 9);
        x.blast(0, true);
        due("one is left", x.tells(0, 11), 9);
        due("two are not", x.tells(1, 11), 1);
        x.blast(1, true);
        due("none is left", x.tells(0, 11), 1);
    }

    private static void tellsTheLastNumber() {
        DUE.sentence("else the last number");
        QuakeLists x = with("0", "7", "9,0>0:9;0", "9,0>0:9;8");
        due("0 alone", x.tells(0, 50), 0);
        due("7 alone", x.tells(1, 50), 7);
        due("0 behind a rule", x.tells(2, 50), 0);
        due("8 behind a rule", x.tells(3, 50), 8);
    }

    private static void tellsThousandAtMost() {
        DUE.sentence("1000 at most");
        QuakeLists x = with("999", "1000", "1001", "9999", "9,0>0:1001;999", "9,0>0:1000;1001");
        int[] want = {999, 1000, 1000, 1000, 999, 1000};
        for (int f = 0; f < 6; f++) {
            due("last number of " + f, x.tells(f, 11), want[f]);
        }
        add(x, 10, 30);
        due("p 1001", x.tells(4, 11), 1000);
        due("p 1000", x.tells(5, 11), 1000);
        due("in the score, too", x.score(3, 90, 0, 0), 1000000);
    }

    private static void tellsOnTheFirstAndLastDay() {
        DUE.sentence("for a DAY (0 to 3999)");
        QuakeLists x = with("9999,0>0:9;1");
        add(x, 0, 30);
        due("day 0: nothing is ahead", x.tells(0, 0), 1);
        due("day 1", x.tells(0, 1), 9);
        due("day 3999", x.tells(0, 3999), 9);
        QuakeLists y = with("1,0>0:9;1");
        add(y, 3998, 30);
        add(y, 3999, 30);
        due("day 3998", y.tells(0, 3998), 1);
        due("day 3999, the day ahead", y.tells(0, 3999), 9);
    }

    private static void tellsByNumbersOfFourDigits() {
        QuakeLists x = with("0010,0030>0000:0900;0005", "3999,0>0:9;1", "3998,0>0:9;1");
        x.quake(0, 0, 0, 0, 30, 0);
        due("zeros ahead: 10 days", x.tells(0, 10), 900);
        due("zeros ahead: 11 days", x.tells(0, 11), 5);
        due("3999 days", x.tells(1, 3999), 9);
        due("3998 days", x.tells(2, 3999), 1);
    }

    private static void tellsByFiveRules() {
        QuakeLists x = with("1,9>0:1;2,8>0:2;3,7>0:3;4,6>0:4;5,5>0:5;6");
        int[] greatness = {9, 8, 7, 6, 5, 4};
        add(x, 10, 0);
        for (int i = 0; i < 6; i++) {
            x.mend(0, greatness[i]);
            due("rule " + (i + 1), x.tells(0, 11), i + 1);
        }
        x.mend(0, 90);
        for (int day = 11; day < 18; day++) {
            due("90, day " + day, x.tells(0, day), Math.min(6, day - 10));
        }
    }

    private static void tellsRefuses() {
        DUE.sentence("What a FORECAST TELLS for a DAY. UNKNOWN; OUTSIDE");
        QuakeLists x = with("7");
        due("f -1", x.tells(-1, 0), UNKNOWN);
        due("f 1", x.tells(1, 0), UNKNOWN);
        due("f 1, day -1", x.tells(1, -1), UNKNOWN);
        due("day -1", x.tells(0, -1), OUTSIDE);
        due("day 4000", x.tells(0, 4000), OUTSIDE);
        due("day 3999", x.tells(0, 3999), 7);
    }

    /** 100 on a calm day, 900 less 1000 on a day behind a quake that is one itself. */
    private static void scoreOfBothEnds() {
        DUE.sentence("SCORE at m of DAYS from .. to (both counted)");
        QuakeLists x = with("1,30>0:900;100");
        add(x, 10, 30);
        due("day 9", x.score(0, 30, 9, 9), 10000);
        due("day 10", x.score(0, 30, 10, 10), 810000);
        due("day 11", x.score(0, 30, 11, 11), 810000);
        due("day 12", x.score(0, 30, 12, 12), 10000);
        due("9 and 10", x.score(0, 30, 9, 10), 820000);
        due("10 and 11", x.score(0, 30, 10, 11), 1620000);
        due("11 and 12", x.score(0, 30, 11, 12), 820000);
        due("9 to 12", x.score(0, 30, 9, 12), 1640000);
        due("from behind to by one", x.score(0, 30, 10, 9), LOST - 2);
        due("0 to 0", x.score(0, 30, 0, 0), 10000);
        due("3999 to 3999", x.score(0, 30, 3999, 3999), 10000);
    }

    private static void scoreIfThereIsAQuake() {
        DUE.sentence("the sum of squares of what it TELLS, less 1000, if there is a QUAKE .. of m or more on that DAY");
        QuakeLists x = with("0", "1000", "400");
        add(x, 10, 30);
        due("0 and none", x.score(0, 31, 10, 10), 0);
        due("0 and one of m", x.score(0, 30, 10, 10), 1000000);
        due("1000 and none", x.score(1, 31, 10, 10), 1000000);
        due("1000 and one", x.score(1, 30, 10, 10), 0);
        due("400 and one", x.score(2, 30, 10, 10), 360000);
        due("400 and none", x.score(2, 30, 9, 9), 160000);
        add(x, 10, 90);
        due("two on a day are one", x.score(2, 30, 10, 10), 360000);
        due("m 90", x.score(2, 90, 10, 10), 360000);
        due("m 0", x.score(2, 0, 10, 10), 360000);
    }

    private static void scoreWheneverTold() {
        DUE.sentence("(whenever TOLD)");
        QuakeLists x = with("0", "9,0>0:300;100");
        x.quake(2, 10, 0, 0, 30, 3999);
        due("told on the last day", x.score(0, 30, 10, 10), 1000000);
        due("but not known to the forecast", x.score(1, 30, 10, 12), 810000 + 2 * 10000);
        QuakeLists y = with("9,0>0:300;100");
        y.quake(0, 10, 0, 0, 30, 12);
        due("known from day 13 to day 19", y.score(0, 30, 12, 20), 10000 + 7 * 90000 + 10000);
    }

    private static void scoreOfNoBlasts() {
        DUE.sentence("a QUAKE, no BLAST");
        QuakeLists x = with("0");
        add(x, 10, 30);
        x.blast(0, true);
        due("a blast", x.score(0, 30, 10, 10), 0);
        add(x, 10, 30);
        due("a blast and a quake", x.score(0, 30, 10, 10), 1000000);
        x.blast(1, true);
        x.blast(0, false);
        due("the other one", x.score(0, 30, 10, 10), 1000000);
    }

    private static void scoreOfAllDays() {
        QuakeLists x = with("1000", "0", "1,0>0:1000;0");
        due("the greatest score", x.score(0, 0, 0, 3999), 4000000000L);
        due("the least score", x.score(1, 0, 0, 3999), 0);
        add(x, 0, 0);
        add(x, 3999, 0);
        due("quakes on the first and last day", x.score(1, 0, 0, 3999), 2000000);
        due("1000 but on two days", x.score(0, 0, 0, 3999), 3998000000L);
        due("an alarm on day 1", x.score(2, 0, 0, 3999), 3000000);
        for (int day = 1; day < 39; day++) {
            add(x, day, 0);
        }
        // no alarm on days 0 and 3999, one too many on day 39
        due("39 quakes in a row, one on the last day", x.score(2, 0, 0, 3999), 3000000);
    }

    private static void scoreRefuses() {
        DUE.sentence("SCORE. UNKNOWN, OUTSIDE: m, DAYS, from behind to (LOST less 1, 2)");
        QuakeLists x = with("0");
        due("f -1", x.score(-1, 0, 0, 0), LOST - 1);
        due("f 1", x.score(1, 0, 0, 0), LOST - 1);
        due("f 1, all else outside", x.score(1, 91, 4000, -1), LOST - 1);
        due("m -1", x.score(0, -1, 0, 0), LOST - 2);
        due("m 91", x.score(0, 91, 0, 0), LOST - 2);
        due("m 90", x.score(0, 90, 0, 0), 0);
        due("from -1", x.score(0, 0, -1, 0), LOST - 2);
        due("from -1 to -1", x.score(0, 0, -1, -1), LOST - 2);
        due("to 4000", x.score(0, 0, 0, 4000), LOST - 2);
        due("from 4000 to 4000", x.score(0, 0, 4000, 4000), LOST - 2);
        due("from 1 to 0", x.score(0, 0, 1, 0), LOST - 2);
        due("from 3999 to 3998", x.score(0, 0, 3999, 3998), LOST - 2);
        due("from 0 to 3999", x.score(0, 0, 0, 3999), 0);
    }

    private static void mixedByZeroToTen() {
        DUE.sentence("MIXED by w (0 to 10): w times what f TELLS, and 10 less w times what g does, by 10");
        QuakeLists x = with("1000", "100");
        for (int w = 0; w <= 10; w++) {
            long told = 100 + 90L * w;
            due("w " + w, x.mixed(0, 1, w, 0, 5, 5), told * told);
        }
        due("w -1", x.mixed(0, 1, -1, 0, 5, 5), LOST - 2);
        due("w 11", x.mixed(0, 1, 11, 0, 5, 5), LOST - 2);
        due("w 0 is g alone", x.mixed(0, 1, 0, 0, 5, 9), x.score(1, 0, 5, 9));
        due("w 10 is f alone", x.mixed(0, 1, 10, 0, 5, 9), x.score(0, 0, 5, 9));
        due("with itself", x.mixed(1, 1, 4, 0, 5, 9), 5 * 10000);
    }

    private static void mixedIsCut() {
        DUE.sentence("Quotients are cut");
        QuakeLists x = with("1", "0", "999");
        due("9 by 10", x.mixed(0, 1, 9, 0, 5, 5), 0);
        due("10 by 10", x.mixed(0, 1, 10, 0, 5, 5), 1);
        due("8991 by 10", x.mixed(2, 1, 9, 0, 5, 5), 899 * 899);
        add(x, 5, 30);
        due("cut ahead of 1000 less", x.mixed(2, 1, 9, 0, 5, 5), 101 * 101);
        due("9 by 10 on a day with a quake", x.mixed(0, 1, 9, 0, 5, 5), 1000000);
    }

    /** What f and g tell changes on days of their own: f on 11 and 13, g on 11 and 16. */
    private static void mixedOfRules() {
        QuakeLists x = with("2,30>0:900;100", "4,20>0:500;0", "1,9>0:1;2,8>0:2;3,7>0:3;4,6>0:4;5,5>0:5;6");
        add(x, 10, 30);
        x.quake(0, 11, 0, 0, 20, 11);
        x.mend(1, 29);
        // days 9 to 17; f: 100 100 900 900 100 .., g: 0 0 500 500 500 500 500 0 0, a quake of 30 on day 10
        long want = 50 * 50 + 950 * 950 + 2 * 700 * 700 + 3 * 300 * 300 + 2 * 50 * 50;
        due("w 5", x.mixed(0, 1, 5, 30, 9, 17), want);
        due("the other way", x.mixed(1, 0, 5, 30, 9, 17), want);
        due("f alone", x.mixed(0, 1, 10, 30, 9, 17), 10000 + 810000 + 2 * 810000 + 5 * 10000);
        due("g alone", x.mixed(0, 1, 0, 30, 9, 17), 1000000 + 5 * 250000);
        due("a score of five rules", x.score(2, 90, 9, 17), 36 + 36 + 1 + 1 + 4 + 9 + 16 + 25 + 36);
        due("five rules, mixed with two", x.mixed(2, 0, 10, 90, 9, 17), 36 + 36 + 1 + 1 + 4 + 9 + 16 + 25 + 36);
    }

    private static void mixedRefuses() {
        DUE.sentence("SCORE of f and g MIXED by w. UNKNOWN, OUTSIDE, likewise");
        QuakeLists x = with("0", "0");
        due("f -1", x.mixed(-1, 0, 0, 0, 0, 0), LOST - 1);
        due("f 2", x.mixed(2, 0, 0, 0, 0, 0), LOST - 1);
        due("g -1", x.mixed(0, -1, 0, 0, 0, 0), LOST - 1);
        due("g 2", x.mixed(0, 2, 0, 0, 0, 0), LOST - 1);
        due("g 2, all else outside", x.mixed(0, 2, 11, 91, 4000, -1), LOST - 1);
        due("g 2, though w is 10", x.mixed(0, 2, 10, 0, 0, 0), LOST - 1);
        due("m -1", x.mixed(0, 1, 0, -1, 0, 0), LOST - 2);
        due("m 91", x.mixed(0, 1, 0, 91, 0, 0), LOST - 2);
        due("from -1", x.mixed(0, 1, 0, 0, -1, 0), LOST - 2);
        due("to 4000", x.mixed(0, 1, 0, 0, 0, 4000), LOST - 2);
        due("from 1 to 0", x.mixed(0, 1, 0, 0, 1, 0), LOST - 2);
        due("0 to 3999", x.mixed(0, 1, 10, 90, 0, 3999), 0);
    }

    private static void bestIsTheLeastSuch() {
        DUE.sentence("BEST: the w with the least SCORE, the least such");
        QuakeLists x = with("7", "7", "9", "0", "1000");
        due("all are alike", x.best(0, 1, 0, 0, 9), 0);
        due("with itself", x.best(0, 0, 0, 0, 9), 0);
        // 9 w by 10: 0 for w 0 and 1
        due("0 and 1 are alike", x.best(2, 3, 0, 0, 9), 0);
        // 9 less 9 w by 10: 0 for w 9 (0.9) and 10
        due("9 and 10 are alike", x.best(3, 2, 0, 0, 9), 9);
        add(x, 1, 30);
        due("one of four days: 2 and 3 are alike", x.best(4, 3, 30, 0, 3), 2);
        due("one of four days, the other way: 7 and 8", x.best(3, 4, 30, 0, 3), 7);
    }

    private static void bestAtEnds() {
        QuakeLists x = with("1000", "0");
        add(x, 1, 30);
        due("w 0", x.best(0, 1, 30, 0, 0), 0);
        due("w 10", x.best(0, 1, 30, 1, 1), 10);
        due("w 10, as nothing is so great", x.best(1, 0, 31, 1, 1), 10);
        due("w 5", x.best(0, 1, 30, 0, 1), 5);
        QuakeLists y = with("1000", "0");
        for (int w = 0; w <= 10; w++) {
            due(w + " of ten days", y.best(0, 1, 30, 0, 9), w);
            due(w + " of ten days, the other way", y.best(1, 0, 30, 0, 9), 10 - w);
            add(y, w, 30);
        }
        due("of all days", x.best(0, 1, 30, 0, 3999), 0);
    }

    private static void bestRefuses() {
        DUE.sentence("BEST w. UNKNOWN; OUTSIDE");
        QuakeLists x = with("0", "0");
        due("f -1", x.best(-1, 0, 0, 0, 0), UNKNOWN);
        due("f 2", x.best(2, 0, 0, 0, 0), UNKNOWN);
        due("g 2", x.best(0, 2, 0, 0, 0), UNKNOWN);
        due("g -1, all else outside", x.best(0, -1, -1, -1, 4000), UNKNOWN);
        due("m -1", x.best(0, 1, -1, 0, 0), OUTSIDE);
        due("m 91", x.best(0, 1, 91, 0, 0), OUTSIDE);
        due("from -1", x.best(0, 1, 0, -1, 0), OUTSIDE);
        due("to 4000", x.best(0, 1, 0, 0, 4000), OUTSIDE);
        due("from 4000 to 4000", x.best(0, 1, 0, 4000, 4000), OUTSIDE);
        due("from 1 to 0", x.best(0, 1, 0, 1, 0), OUTSIDE);
        due("0 to 3999", x.best(0, 1, 90, 0, 3999), 0);
    }
}
