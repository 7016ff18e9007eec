import java.util.function.Consumer;

/**
 * A test for each sentence of the document's "What it is" and "Terms" that names a boundary: the
 * least and the most, none at all, a tie, a call that is refused. Each is named by the sentence.
 */
public final class TermsBoundariesTest {
    private static final Check check = new Check("TermsBoundariesTest");
    private static final int[] FAR = {Integer.MIN_VALUE, -65536, 65536, Integer.MAX_VALUE};

    public static void main(String[] args) {
        uses();
        islandsAndCables();
        ships();
        ways();
        hours();
        exceptions();
        check.end();
    }

    private static void uses() {
        check.sentence("An object is used for at most 512 calls after it has been made", () -> {
            sumsAfter512Calls();
            faultsWithin512Calls();
            refusalsWithin512Calls();
        });
        check.sentence("NONE = -1, IDLE = 0, SAILS = 1, SPLICES = 2, TESTS = 3", TermsBoundariesTest::constants);
    }

    private static void islandsAndCables() {
        check.sentence("Islands are numbered from 0, at most 10", TermsBoundariesTest::tenIslands);
        check.sentence("Islands .. each at a place x, y, 0 to 99 both", TermsBoundariesTest::places);
        check.sentence("Cables are numbered from 0, at most 16", TermsBoundariesTest::sixteenCables);
        check.sentence("Cables .. between two islands", TermsBoundariesTest::cablesBetweenTheSameIslands);
        check.sentence("Cables .. with 1 to 8 spans", TermsBoundariesTest::spans);
        check.sentence("Cables .. a delay, 1 to 500", TermsBoundariesTest::delays);
        check.sentence("Cables .. and a price for an hour, 0 to 9999", TermsBoundariesTest::prices);
        check.sentence("The span k, from 0 on, lies at the place", TermsBoundariesTest::firstAndLastSpan);
        check.sentence("(2 k and 1) times what the other one's x is more, by twice the spans; y likewise",
                TermsBoundariesTest::allPlacesOfSpans);
        check.sentence("cut towards 0", TermsBoundariesTest::placesAreCutTowards0);
        check.sentence("A span may have a fault", TermsBoundariesTest::everySpanMayHaveAFault);
        check.sentence("a cable with a fault does not work", TermsBoundariesTest::oneFaultIsEnough);
    }

    private static void ships() {
        check.sentence("Ships are numbered from 0, at most 4", TermsBoundariesTest::fourShips);
        check.sentence("a ship has a speed, 1 to 20", TermsBoundariesTest::speeds);
        check.sentence("and is IDLE 0, SAILS 1, SPLICES 2 or TESTS 3", TermsBoundariesTest::statesOfAShip);
        check.sentence("Hours are counted from 0", () -> check.due("the first hour", new CableChart().pass(1), 1));
        check.sentence("A ship that is IDLE may be sent to a span with a fault, or to an island",
                TermsBoundariesTest::idleShipsAlone);
        check.sentence("It SAILS as many hours as the way by the speed, rounded up", TermsBoundariesTest::hoursOfWays);
        check.sentence("what both x and y are apart, together", TermsBoundariesTest::waysOfShips);
        check.sentence("come to a span whose fault is there still, it SPLICES for 6 hours",
                TermsBoundariesTest::splicesFor6);
        check.sentence("then TESTS for 2", TermsBoundariesTest::testsFor2);
        check.sentence("then the fault that there is is mended by it", TermsBoundariesTest::mendsTheFaultThatThereIs);
        check.sentence("(none, if another ship was earlier)", TermsBoundariesTest::mendsNoneBehindAnother);
        check.sentence("and it is IDLE there", TermsBoundariesTest::idleWhereItMended);
        check.sentence("If the fault is gone when it comes, it is IDLE there", TermsBoundariesTest::faultIsGone);
        check.sentence("or at an island, it is IDLE there", TermsBoundariesTest::idleAtAnIsland);
        check.sentence("(If the way takes no hour, it has come as it is sent.)", TermsBoundariesTest::noHour);
    }

    private static void ways() {
        check.sentence("Traders are numbered from 0, at most 12", TermsBoundariesTest::twelveTraders);
        check.sentence("Traders .. from an island to another one", TermsBoundariesTest::fromOneToAnother);
        check.sentence("a row of cables that work", TermsBoundariesTest::cablesThatWork);
        check.sentence("from the one island to the other one", TermsBoundariesTest::bothEndsOfAWay);
        check.sentence("with the least sum of prices", TermsBoundariesTest::leastPrices);
        check.sentence("of several the least sum of delays", TermsBoundariesTest::leastDelays);
        check.sentence("then the fewest cables", TermsBoundariesTest::fewestCables);
        check.sentence("then the one that has the lowest cable at the first place where they are unlike",
                TermsBoundariesTest::lowestCable);
        check.sentence("Without one the trader is cut off", TermsBoundariesTest::withoutAWay);
        check.sentence("a way whose delay is more than the most is late", TermsBoundariesTest::moreThanTheMost);
    }

    private static void hours() {
        check.sentence("When an hour passes, first the hour is one more", TermsBoundariesTest::oneMoreHour);
        check.sentence("then, by rising ships", TermsBoundariesTest::byRisingShips);
        check.sentence("one that SAILS, SPLICES or TESTS has an hour less to go", TermsBoundariesTest::anHourLess);
        check.sentence("and goes on if none is left", TermsBoundariesTest::goesOnAtNone);
        check.sentence("then each trader pays the price of its way as it is then", TermsBoundariesTest::asItIsThen);
        check.sentence("or is cut off for an hour", TermsBoundariesTest::cutOffForAnHour);
        check.sentence("or its way is late for an hour (and pays)", TermsBoundariesTest::lateAndPays);
        check.sentence("and gets the credit for that", TermsBoundariesTest::theCreditForThat);
        check.sentence("but all credits together at most the most credit", TermsBoundariesTest::theMostCredit);
    }

    private static void exceptions() {
        check.sentence("IndexOutOfBoundsException is thrown for what does not exist", TermsBoundariesTest::noSuchOne);
        check.sentence("IllegalArgumentException for another argument out of range",
                TermsBoundariesTest::argumentOutOfRange);
        check.sentence("IllegalStateException if a call is not possible now", TermsBoundariesTest::notPossibleNow);
        check.sentence("also if there would be more than told", TermsBoundariesTest::moreThanTold);
        check.sentence("IndexOutOfBoundsException goes first", TermsBoundariesTest::indexGoesFirst);
        check.sentence("then IllegalArgumentException", TermsBoundariesTest::argumentGoesSecond);
        check.sentence("A call that throws an exception changes nothing", TermsBoundariesTest::aThrowChangesNothing);
    }

    // What it is

    /** 9 cables at the most price and 490 calls of the most hours: more than an int holds. */
    private static void sumsAfter512Calls() {
        CableChart chart = dearest(); // 19 calls
        chart.trader(0, 9, 4499, 0, 9999, 1000000);
        chart.price(0, 9999);
        for (int i = 0; i < 490; i++) {
            check.due("call " + (22 + i), chart.pass(500), 500 * (i + 1));
        }
        check.due("the 512th call", chart.account(0, 0), 245000L * 89991L);
        CableChart cut = Charts.at(0, 0, 1, 1);
        cut.trader(0, 1, 1, 9999, 0, 1000000);
        for (int i = 0; i < 507; i++) {
            cut.pass(500);
        }
        check.due("the 511th call", cut.account(0, 2), 253500);
        check.due("the 512th call", cut.account(0, 1), 1000000);
    }

    /** More faults, one behind the other, than there are spans. */
    private static void faultsWithin512Calls() {
        CableChart chart = Charts.row(2);
        chart.ship(0, 20);
        for (int i = 0; i < 169; i++) {
            check.due("fault " + i, chart.fault(0, 0), 1);
            check.due("is sent to fault " + i, chart.send(0, 0, 0), i == 0 ? 1 : 0);
            chart.pass(i == 0 ? 9 : 8);
        }
        check.due("the 512th call", chart.shipOf(0, 4), 169);
    }

    private static void refusalsWithin512Calls() {
        CableChart chart = Charts.row(2);
        for (int i = 0; i < 508; i++) {
            check.throwsArgument("refused", () -> chart.island(100, 0));
        }
        check.due("the 512th call", chart.island(99, 0), 2);
    }

    private static void constants() {
        check.due("NONE", CableChart.NONE, -1);
        check.due("IDLE", CableChart.IDLE, 0);
        check.due("SAILS", CableChart.SAILS, 1);
        check.due("SPLICES", CableChart.SPLICES, 2);
        check.due("TESTS", CableChart.TESTS, 3);
    }

    // Islands, cables, faults

    private static void tenIslands() {
        CableChart chart = new CableChart();
        check.throwsIndex("the first one ahead of it", () -> chart.reach(0));
        for (int i = 0; i < 10; i++) {
            check.due("number", chart.island(i, i), i);
        }
        check.due("the last one is there", chart.reach(9), 512);
        check.throwsState("the eleventh", () -> chart.island(0, 0));
        check.throwsIndex("the eleventh", () -> chart.reach(10));
    }

    private static void places() {
        int[] corners = {0, 0, 0, 99, 99, 0, 99, 99};
        CableChart chart = Charts.at(corners);
        for (int i = 0; i < 4; i++) {
            chart.ship(i, 1);
            check.due("corner", Charts.ship(chart, i), "0 " + corners[2 * i] + " " + corners[2 * i + 1] + " 0 0");
        }
        check.throwsArgument("x of -1", () -> chart.island(-1, 0));
        check.throwsArgument("x of 100", () -> chart.island(100, 0));
        check.throwsArgument("y of -1", () -> chart.island(0, -1));
        check.throwsArgument("y of 100", () -> chart.island(0, 100));
        for (int far : FAR) {
            check.throwsArgument("x far off", () -> chart.island(far, 0));
            check.throwsArgument("y far off", () -> chart.island(0, far));
        }
        check.due("none of them is there", chart.island(99, 99), 4);
    }

    private static void sixteenCables() {
        CableChart chart = Charts.at(0, 0, 9, 9);
        check.throwsIndex("the first one ahead of it", () -> chart.works(0) ? 1 : 0);
        for (int i = 0; i < 16; i++) {
            check.due("number", chart.cable(0, 1, 1, 1, 1), i);
        }
        check.due("the last one works", chart.works(15), true);
        check.throwsState("the seventeenth", () -> chart.cable(0, 1, 1, 1, 1));
        check.throwsIndex("the seventeenth", () -> chart.works(16) ? 1 : 0);
    }

    private static void cablesBetweenTheSameIslands() {
        CableChart chart = Charts.at(7, 7, 7, 7, 0, 0);
        check.due("between islands at one place", chart.cable(0, 1, 1, 3, 3), 0);
        check.due("one more", chart.cable(0, 1, 1, 2, 3), 1);
        check.due("one more, the other way round", chart.cable(1, 0, 1, 2, 2), 2);
        chart.trader(0, 1, 1, 0, 0, 0);
        check.due("the best of them", Charts.way(chart, 0), "2");
        chart.fault(2, 0);
        check.due("the next", Charts.way(chart, 0), "1");
        chart.fault(1, 0);
        check.due("the last", Charts.way(chart, 0), "0");
        check.throwsArgument("an island and itself", () -> chart.cable(2, 2, 1, 1, 1));
    }

    private static void spans() {
        CableChart chart = Charts.at(0, 0, 9, 9);
        for (int spans = 1; spans <= 8; spans++) {
            int cable = chart.cable(0, 1, spans, 1, 1);
            int behind = spans;
            check.throwsIndex("span behind the last of " + spans, () -> chart.fault(cable, behind));
            check.due("the last span of " + spans, chart.fault(cable, spans - 1), spans);
            check.throwsIndex("span below the first of " + spans, () -> chart.fault(cable, -1));
        }
        check.throwsArgument("0 spans", () -> chart.cable(0, 1, 0, 1, 1));
        check.throwsArgument("9 spans", () -> chart.cable(0, 1, 9, 1, 1));
        check.throwsArgument("-1 spans", () -> chart.cable(0, 1, -1, 1, 1));
        for (int far : FAR) {
            check.throwsArgument("spans far off", () -> chart.cable(0, 1, far, 1, 1));
        }
    }

    private static void delays() {
        CableChart chart = Charts.at(0, 0, 9, 9, 20, 20);
        chart.cable(0, 1, 1, 1, 1);
        chart.cable(1, 2, 1, 500, 1);
        chart.trader(0, 1, 1, 0, 0, 0);
        chart.trader(1, 2, 1, 0, 0, 0);
        check.due("the least", chart.sum(0, 1), 1);
        check.due("the most", chart.sum(1, 1), 500);
        check.throwsArgument("0", () -> chart.cable(0, 1, 1, 0, 1));
        check.throwsArgument("501", () -> chart.cable(0, 1, 1, 501, 1));
        for (int far : FAR) {
            check.throwsArgument("far off", () -> chart.cable(0, 1, 1, far, 1));
        }
    }

    private static void prices() {
        CableChart chart = Charts.at(0, 0, 9, 9, 20, 20);
        chart.cable(0, 1, 1, 1, 0);
        chart.cable(1, 2, 1, 1, 9999);
        chart.trader(0, 1, 1, 0, 0, 0);
        chart.trader(1, 2, 1, 0, 0, 0);
        check.due("the least", Charts.sums(chart, 0), "0 1 1, 0");
        check.due("the most", Charts.sums(chart, 1), "9999 1 1, 9999");
        chart.pass(2);
        check.due("for two hours, the least", chart.account(0, 0), 0);
        check.due("for two hours, the most", chart.account(1, 0), 19998);
        check.throwsArgument("-1", () -> chart.cable(0, 1, 1, 1, -1));
        check.throwsArgument("10000", () -> chart.cable(0, 1, 1, 1, 10000));
        for (int far : FAR) {
            check.throwsArgument("far off", () -> chart.cable(0, 1, 1, 1, far));
        }
    }

    /** Over the whole chart, along both of its diagonals. */
    private static void firstAndLastSpan() {
        check.due("the first", placeOfSpan(0, 0, 99, 99, 8, 0), "6 6");
        check.due("the last", placeOfSpan(0, 0, 99, 99, 8, 7), "92 92");
        check.due("back, the first", placeOfSpan(99, 99, 0, 0, 8, 0), "93 93");
        check.due("back, the last", placeOfSpan(99, 99, 0, 0, 8, 7), "7 7");
        check.due("across, the first", placeOfSpan(0, 99, 99, 0, 8, 0), "6 93");
        check.due("across, the last", placeOfSpan(0, 99, 99, 0, 8, 7), "92 7");
        check.due("the only one", placeOfSpan(0, 0, 99, 99, 1, 0), "49 49");
        check.due("the one in the middle", placeOfSpan(10, 50, 90, 10, 5, 2), "50 30");
        check.due("islands at one place", placeOfSpan(5, 6, 5, 6, 8, 7), "5 6");
    }

    private static void allPlacesOfSpans() {
        for (int apart = 0; apart <= 99; apart++) {
            for (int spans = 1; spans <= 8; spans++) {
                for (int span = 0; span < spans; span++) {
                    int ahead = 0;
                    while ((ahead + 1) * 2 * spans <= (2 * span + 1) * apart) {
                        ahead++;
                    }
                    String what = apart + " apart, span " + span + " of " + spans;
                    check.due(what, placeOfSpan(0, apart, apart, 0, spans, span), ahead + " " + (apart - ahead));
                    check.due(what + ", y alone", placeOfSpan(3, 99 - apart, 3, 99, spans, span),
                            "3 " + (99 - apart + ahead));
                }
            }
        }
    }

    private static void placesAreCutTowards0() {
        check.due("a half more of x, a half less of y", placeOfSpan(5, 5, 6, 4, 1, 0), "5 5");
        check.due("a half less of x, a half more of y", placeOfSpan(6, 4, 5, 5, 1, 0), "6 4");
        check.due("a whole more and less", placeOfSpan(5, 5, 7, 3, 1, 0), "6 4");
        check.due("less than two less", placeOfSpan(9, 9, 7, 7, 8, 7), "8 8");
        check.due("exactly one less", placeOfSpan(9, 9, 1, 1, 4, 0), "8 8");
    }

    private static String placeOfSpan(int x, int y, int otherX, int otherY, int spans, int span) {
        CableChart chart = Charts.at(x, y, otherX, otherY);
        chart.cable(0, 1, spans, 1, 1);
        chart.fault(0, span);
        chart.ship(0, 20);
        chart.send(0, 0, span);
        return chart.shipOf(0, 1) + " " + chart.shipOf(0, 2);
    }

    private static void everySpanMayHaveAFault() {
        CableChart chart = Charts.at(0, 0, 9, 9);
        for (int cable = 0; cable < 16; cable++) {
            chart.cable(0, 1, 8, 1, 1);
            for (int span = 7; span >= 0; span--) {
                check.due("one more", chart.fault(cable, span), 8 * cable + 8 - span);
            }
        }
        for (int i = 0; i < 128; i++) {
            int cable = i / 8;
            int span = i % 8;
            check.throwsState("two at one span", () -> chart.fault(cable, span));
        }
        check.due("none by that", chart.faultAt(128), CableChart.NONE);
    }

    private static void oneFaultIsEnough() {
        for (int span = 0; span < 8; span++) {
            CableChart chart = Charts.at(0, 0, 0, 0);
            chart.cable(0, 1, 8, 1, 1);
            chart.cable(0, 1, 8, 1, 2);
            chart.ship(0, 1);
            check.due("without a fault", chart.works(0), true);
            chart.fault(0, span);
            check.due("with one at " + span, chart.works(0), false);
            check.due("the other cable", chart.works(1), true);
            int more = (span + 1) % 8;
            chart.fault(0, more);
            chart.send(0, 0, span);
            chart.pass(8);
            check.due("with one of two", chart.works(0), false);
            chart.send(0, 0, more);
            chart.pass(8);
            check.due("with none again", chart.works(0), true);
        }
    }

    // Ships

    private static void fourShips() {
        CableChart chart = Charts.at(1, 2);
        check.throwsIndex("the first one ahead of it", () -> chart.shipOf(0, 0));
        for (int i = 0; i < 4; i++) {
            check.due("number", chart.ship(0, 20), i);
        }
        check.due("the last one is there", Charts.ship(chart, 3), "0 1 2 0 0");
        check.throwsState("the fifth", () -> chart.ship(0, 20));
        check.throwsIndex("the fifth", () -> chart.shipOf(4, 0));
    }

    private static void speeds() {
        CableChart chart = Charts.at(0, 0, 40, 0);
        for (int far : FAR) {
            check.throwsArgument("far off", () -> chart.ship(0, far));
        }
        check.throwsArgument("-1", () -> chart.ship(0, -1));
        check.throwsArgument("0", () -> chart.ship(0, 0));
        check.throwsArgument("21", () -> chart.ship(0, 21));
        check.due("1", chart.ship(0, 1), 0);
        check.due("20", chart.ship(0, 20), 1);
        check.due("hours at 1", chart.home(0, 1), 40);
        check.due("hours at 20", chart.home(1, 1), 2);
    }

    private static void statesOfAShip() {
        CableChart chart = atAFault();
        check.due("told", chart.shipOf(0, 0), 0);
        chart.send(0, 0, 0);
        int[] states = {1, 2, 2, 2, 2, 2, 2, 3, 3, 0, 0};
        for (int hour = 0; hour < states.length; hour++) {
            check.due("hour " + hour, chart.shipOf(0, 0), states[hour]);
            chart.pass(1);
        }
    }

    /** A ship that is an hour away from a fault, at a speed of 5. */
    private static CableChart atAFault() {
        CableChart chart = Charts.row(2);
        chart.ship(0, 5);
        chart.fault(0, 0);
        return chart;
    }

    private static void idleShipsAlone() {
        CableChart chart = atAFault();
        chart.cable(0, 1, 1, 1, 1);
        check.throwsState("to a span without a fault", () -> chart.send(0, 1, 0));
        chart.send(0, 0, 0);
        refusedWhile("it sails", chart);
        chart.pass(1);
        refusedWhile("it splices", chart);
        chart.pass(5);
        refusedWhile("its last hour of splicing", chart);
        chart.pass(1);
        refusedWhile("it tests", chart);
        chart.pass(1);
        refusedWhile("its last hour of testing", chart);
        chart.pass(1);
        check.due("idle, to an island", chart.home(0, 0), 1);
        refusedWhile("it sails home", chart);
        chart.pass(1);
        check.due("idle, to a fault", chart.send(0, 0, 0), 1);
    }

    /** The span has a fault, so that what the ship does is all that is in the way. */
    private static void refusedWhile(String what, CableChart chart) {
        if (chart.works(0)) {
            chart.fault(0, 0);
        }
        check.throwsState(what + ", to a fault", () -> chart.send(0, 0, 0));
        check.throwsState(what + ", to an island", () -> chart.home(0, 1));
    }

    private static void hoursOfWays() {
        for (int apart = 0; apart <= 198; apart++) {
            int x = Math.min(apart, 99);
            for (int speed = 1; speed <= 20; speed += 4) {
                CableChart chart = Charts.at(0, 0, x, apart - x);
                for (int ship = 0; ship < 4; ship++) {
                    chart.ship(0, speed + ship);
                    int hours = 0;
                    while (hours * (speed + ship) < apart) {
                        hours++;
                    }
                    check.due(apart + " at " + (speed + ship), chart.home(ship, 1), hours);
                    check.due(apart + " at " + (speed + ship) + " to go", chart.shipOf(ship, 3), hours);
                }
            }
        }
    }

    private static void waysOfShips() {
        check.due("x alone", waysThereAndBack(10, 50, 17, 50), "7 7");
        check.due("y alone", waysThereAndBack(50, 10, 50, 17), "7 7");
        check.due("x and y more", waysThereAndBack(10, 10, 13, 14), "7 7");
        check.due("x more, y less", waysThereAndBack(10, 14, 13, 10), "7 7");
        check.due("over the whole chart", waysThereAndBack(0, 99, 99, 0), "198 198");
        check.due("none", waysThereAndBack(99, 99, 99, 99), "0 0");
        CableChart chart = atAFault();
        chart.home(0, 1);
        chart.pass(2);
        check.due("from the island to which it sailed", chart.send(0, 0, 0), 1);
        chart.pass(9);
        check.due("from the span that it mended", chart.home(0, 0), 1);
    }

    private static String waysThereAndBack(int x, int y, int toX, int toY) {
        CableChart chart = Charts.at(x, y, toX, toY);
        chart.ship(0, 1);
        chart.ship(1, 1);
        return chart.home(0, 1) + " " + chart.home(1, 0);
    }

    private static void splicesFor6() {
        CableChart chart = atAFault();
        chart.send(0, 0, 0);
        chart.pass(1);
        check.due("has come", Charts.ship(chart, 0), "2 5 0 6 0");
        chart.pass(5);
        check.due("after 5 hours", Charts.ship(chart, 0), "2 5 0 1 0");
        chart.pass(1);
        check.due("after 6 hours", chart.shipOf(0, 0), CableChart.TESTS);
    }

    private static void testsFor2() {
        CableChart chart = atAFault();
        chart.send(0, 0, 0);
        chart.pass(7);
        check.due("after splicing", Charts.ship(chart, 0), "3 5 0 2 0");
        chart.pass(1);
        check.due("after 1 hour", Charts.ship(chart, 0), "3 5 0 1 0");
        check.due("not mended yet", chart.works(0), false);
        chart.pass(1);
        check.due("after 2 hours", Charts.ship(chart, 0), "0 5 0 0 1");
        check.due("mended", chart.works(0), true);
    }

    /** A fault that comes to its span again is there for a ship that was sent to the earlier one. */
    private static void mendsTheFaultThatThereIs() {
        CableChart chart = Charts.at(0, 0, 16, 0);
        chart.cable(0, 1, 8, 1, 1);
        chart.ship(0, 1);
        for (int span = 0; span < 8; span++) {
            chart.fault(0, span);
        }
        chart.send(0, 0, 3);
        chart.pass(15);
        check.due("the one at its span, no other", Charts.faults(chart), "0 1 2 4 5 6 7");
        check.due("is counted", chart.shipOf(0, 4), 1);
        CableChart again = atAFault();
        again.ship(0, 2);
        again.send(0, 0, 0);
        again.send(1, 0, 0);
        again.pass(9);
        check.due("the first mended it", Charts.ship(again, 0) + ", " + Charts.faults(again), "0 5 0 0 1, none");
        again.fault(0, 0);
        again.pass(2);
        check.due("the second mends the new one", Charts.ship(again, 1) + ", " + Charts.faults(again),
                "0 5 0 0 1, none");
    }

    private static void mendsNoneBehindAnother() {
        CableChart chart = atAFault();
        chart.ship(0, 2);
        chart.ship(0, 5);
        chart.send(0, 0, 0);
        chart.send(1, 0, 0);
        chart.send(2, 0, 0);
        chart.pass(9);
        check.due("the earlier one", Charts.ship(chart, 0), "0 5 0 0 1");
        check.due("one that came with it", Charts.ship(chart, 2), "0 5 0 0 0");
        check.due("one that came later tests on", Charts.ship(chart, 1), "3 5 0 2 0");
        chart.pass(2);
        check.due("and has mended none", Charts.ship(chart, 1), "0 5 0 0 0");
        check.due("no fault", chart.faultAt(0), CableChart.NONE);
    }

    private static void idleWhereItMended() {
        CableChart chart = atAFault();
        chart.send(0, 0, 0);
        chart.pass(9);
        check.due("at once", Charts.ship(chart, 0), "0 5 0 0 1");
        chart.pass(500);
        check.due("for long", Charts.ship(chart, 0), "0 5 0 0 1");
    }

    private static void faultIsGone() {
        CableChart chart = atAFault();
        chart.cable(0, 1, 2, 1, 1);
        chart.fault(1, 0);
        chart.ship(1, 1);
        chart.send(0, 0, 0);
        chart.pass(4);
        chart.send(1, 0, 0);
        chart.pass(4);
        check.due("it sails for the last hour", Charts.ship(chart, 1), "1 5 0 1 0");
        chart.pass(1);
        check.due("mended in the very hour", Charts.ship(chart, 1), "0 5 0 0 0");
        chart.pass(9);
        check.due("it stays idle", Charts.ship(chart, 1), "0 5 0 0 0");
        check.due("another fault stays", Charts.faults(chart), "8");
    }

    private static void idleAtAnIsland() {
        CableChart chart = Charts.at(0, 0, 10, 0, 5, 0);
        chart.cable(0, 1, 1, 1, 1);
        chart.ship(0, 5);
        chart.fault(0, 0);
        chart.home(0, 2);
        chart.pass(1);
        check.due("though a fault lies there too", Charts.ship(chart, 0), "0 5 0 0 0");
        chart.send(0, 0, 0);
        chart.pass(8);
        chart.fault(0, 0);
        chart.home(0, 0);
        chart.pass(1);
        check.due("though it was sent to a fault earlier", Charts.ship(chart, 0), "0 0 0 0 1");
        chart.pass(9);
        check.due("the fault stays", Charts.faults(chart), "0");
    }

    private static void noHour() {
        CableChart chart = Charts.at(0, 0, 10, 0, 5, 0);
        chart.cable(0, 1, 1, 1, 1);
        chart.fault(0, 0);
        chart.ship(2, 1);
        chart.ship(2, 1);
        check.due("to a fault", chart.send(0, 0, 0), 0);
        check.due("it splices", Charts.ship(chart, 0), "2 5 0 6 0");
        check.due("to an island", chart.home(1, 2), 0);
        check.due("it is idle", Charts.ship(chart, 1), "0 5 0 0 0");
        check.due("and may be sent again", chart.send(1, 0, 0), 0);
        chart.pass(7);
        check.due("not ahead of its time", Charts.ship(chart, 0), "3 5 0 1 0");
        chart.pass(1);
        check.due("the lower one mended", Charts.ship(chart, 0), "0 5 0 0 1");
        check.due("the higher one none", Charts.ship(chart, 1), "0 5 0 0 0");
    }

    // Traders, ways

    private static void twelveTraders() {
        CableChart chart = Charts.row(2);
        check.throwsIndex("the first one ahead of it", () -> chart.sumAnew(0));
        for (int i = 0; i < 12; i++) {
            check.due("number", chart.trader(i % 2, 1 - i % 2, 10, 0, 0, 0), i);
        }
        chart.pass(1);
        check.due("the last one is there", Charts.way(chart, 11) + ", " + Charts.account(chart, 11), "0, 5 0 0 0");
        check.throwsState("the thirteenth", () -> chart.trader(0, 1, 1, 0, 0, 0));
        check.throwsIndex("the thirteenth", () -> chart.account(12, 0));
    }

    private static void fromOneToAnother() {
        CableChart chart = Charts.row(2);
        check.throwsArgument("from an island to itself", () -> chart.trader(1, 1, 1, 0, 0, 0));
        check.throwsArgument("from the first island to itself", () -> chart.trader(0, 0, 1, 0, 0, 0));
        check.due("to another one", chart.trader(1, 0, 1, 0, 0, 0), 0);
        check.due("two traders alike", chart.trader(1, 0, 1, 0, 0, 0), 1);
    }

    private static void cablesThatWork() {
        CableChart chart = Charts.row(3);
        chart.cable(0, 2, 8, 500, 9999);
        chart.trader(0, 2, 5000, 0, 0, 0);
        check.due("all work", Charts.way(chart, 0), "0 1");
        chart.fault(1, 0);
        check.due("the last cable of the way does not", Charts.way(chart, 0), "2");
        check.due("sums", Charts.sums(chart, 0), "9999 500 1, 9999");
        chart.fault(2, 7);
        check.due("none does", Charts.way(chart, 0), "none");
    }

    private static void bothEndsOfAWay() {
        CableChart chart = Charts.row(10);
        chart.trader(0, 9, 5000, 0, 0, 0);
        chart.trader(9, 0, 5000, 0, 0, 0);
        chart.trader(4, 5, 5000, 0, 0, 0);
        chart.trader(5, 4, 5000, 0, 0, 0);
        check.due("the longest", Charts.way(chart, 0), "0 1 2 3 4 5 6 7 8");
        check.due("the longest, back", Charts.way(chart, 1), "8 7 6 5 4 3 2 1 0");
        check.due("the shortest", Charts.way(chart, 2), "4");
        check.due("the shortest, back", Charts.way(chart, 3), "4");
    }

    /**
     * Whether a trader takes nine cables in a row or one from end to end. What the numbers of the
     * cables are must not matter, as there are never as many cables in both.
     */
    private static String taken(int price, int delay, int priceOfOne, int delayOfOne) {
        CableChart lower = tenIslandsInARow();
        lower.cable(9, 0, 1, delayOfOne, priceOfOne);
        CableChart higher = tenIslandsInARow();
        for (int i = 0; i < 9; i++) {
            lower.cable(i, i + 1, 1, delay, price);
            higher.cable(i, i + 1, 1, delay, price);
        }
        higher.cable(9, 0, 1, delayOfOne, priceOfOne);
        String taken = takenOf(lower, 0);
        return taken.equals(takenOf(higher, 9)) ? taken : "the lower number";
    }

    private static String takenOf(CableChart chart, int one) {
        chart.trader(0, 9, 1, 0, 0, 0);
        chart.trader(9, 0, 1, 0, 0, 0);
        int cables = chart.sum(0, 2);
        check.due("as many back", chart.sum(1, 2), cables);
        check.due("the same prices, found a second time", chart.sumAnew(0), chart.sum(0, 0));
        return cables == 9 ? "nine" : cables == 1 && chart.way(0, 0) == one ? "one" : "neither";
    }

    private static CableChart tenIslandsInARow() {
        return Charts.at(0, 0, 1, 1, 2, 2, 3, 3, 4, 4, 5, 5, 6, 6, 7, 7, 8, 8, 9, 9);
    }

    private static CableChart dearest() {
        CableChart chart = tenIslandsInARow();
        for (int i = 0; i < 9; i++) {
            chart.cable(i, i + 1, 1, 500, 9999);
        }
        return chart;
    }

    private static void leastPrices() {
        check.due("9 of 0 and the most delay against 1", taken(0, 500, 1, 1), "nine");
        check.due("9 of 1 and the most delay against 10", taken(1, 500, 10, 1), "nine");
        check.due("9 of 1 against 8 and the most delay", taken(1, 1, 8, 500), "one");
        check.due("9 of 1111 and the least delay against 9998", taken(1111, 1, 9998, 500), "one");
        check.due("9 of 1110 and the most delay against 9991", taken(1110, 500, 9991, 1), "nine");
        check.due("9 of 1110 and the least delay against 9989", taken(1110, 1, 9989, 500), "one");
        check.due("9 of the most", Charts.sums(dearestWithTrader(), 0), "89991 4500 9, 89991");
        cheaperThoughLate();
        oneLessAtTheLastCable();
    }

    private static void cheaperThoughLate() {
        CableChart chart = Charts.row(2);
        chart.cable(0, 1, 1, 1, 6);
        chart.trader(0, 1, 9, 0, 1, 100);
        check.due("the cheaper one, though it is late", Charts.way(chart, 0), "0");
        chart.pass(1);
        check.due("late for an hour", Charts.account(chart, 0), "5 1 0 1");
    }

    private static void oneLessAtTheLastCable() {
        CableChart chart = Charts.row(4);
        chart.cable(0, 3, 1, 30, 15);
        chart.trader(0, 3, 1, 0, 0, 0);
        check.due("as much", Charts.way(chart, 0), "3");
        chart.price(2, 4);
        check.due("one less", Charts.way(chart, 0), "0 1 2");
        chart.price(3, 13);
        check.due("one less again", Charts.way(chart, 0), "3");
    }

    private static CableChart dearestWithTrader() {
        CableChart chart = dearest();
        chart.trader(0, 9, 5000, 0, 0, 0);
        return chart;
    }

    private static void leastDelays() {
        check.due("9 of 55 against 496", taken(1111, 55, 9999, 496), "nine");
        check.due("9 of 55 against 494", taken(1111, 55, 9999, 494), "one");
        check.due("9 of 1 against 10, for nothing", taken(0, 1, 0, 10), "nine");
        check.due("9 of 1 against 8, for nothing", taken(0, 1, 0, 8), "one");
        check.due("9 of the most against the least", taken(0, 500, 0, 1), "one");
        CableChart chart = Charts.row(3);
        chart.cable(0, 2, 1, 21, 10);
        chart.trader(0, 2, 1, 0, 0, 0);
        check.due("of two that tie in prices", Charts.sums(chart, 0), "10 20 2, 10");
    }

    private static void fewestCables() {
        check.due("1 against 9", taken(1111, 55, 9999, 495), "one");
        check.due("1 against 9, for nothing", taken(0, 1, 0, 9), "one");
        CableChart chart = Charts.at(0, 0, 1, 1, 2, 2, 3, 3, 4, 4);
        chart.cable(0, 1, 1, 2, 2);
        chart.cable(1, 2, 1, 2, 2);
        chart.cable(2, 3, 1, 4, 4);
        chart.cable(4, 3, 1, 4, 4);
        chart.cable(0, 4, 1, 4, 4);
        chart.trader(0, 3, 5000, 0, 0, 0);
        check.due("2 of higher numbers against 3", Charts.way(chart, 0), "4 3");
        check.due("sums", Charts.sums(chart, 0), "8 8 2, 8");
        chart.price(4, 5);
        check.due("3 that are cheaper", Charts.way(chart, 0), "0 1 2");
    }

    private static void lowestCable() {
        CableChart chart = Charts.at(0, 0, 1, 1, 2, 2, 3, 3);
        chart.cable(2, 3, 1, 1, 1);
        chart.cable(1, 3, 1, 1, 1);
        chart.cable(0, 1, 1, 1, 1);
        chart.cable(0, 2, 1, 1, 1);
        chart.trader(0, 3, 5000, 0, 0, 0);
        chart.trader(3, 0, 5000, 0, 0, 0);
        check.due("the first place decides, not the lowest of all", Charts.way(chart, 0), "2 1");
        check.due("the first place is where the trader is from", Charts.way(chart, 1), "0 3");
        chart.cable(3, 1, 1, 1, 1);
        chart.cable(1, 0, 1, 1, 1);
        check.due("higher ones beside it", Charts.way(chart, 0), "2 1");
        chart.fault(1, 0);
        check.due("unlike at a later place", Charts.way(chart, 0), "2 4");
        chart.fault(2, 0);
        check.due("unlike at the first place", Charts.way(chart, 0), "3 0");
        chart.fault(0, 0);
        check.due("the last that is left", Charts.way(chart, 0), "5 4");
        check.due("and back", Charts.way(chart, 1), "4 5");
        sixteenAlike();
    }

    private static void sixteenAlike() {
        CableChart chart = Charts.at(0, 0, 1, 1);
        for (int i = 0; i < 16; i++) {
            chart.cable(i % 2, 1 - i % 2, 1, 500, 9999);
        }
        chart.trader(0, 1, 5000, 0, 0, 0);
        for (int i = 0; i < 16; i++) {
            check.due("the lowest that works", Charts.way(chart, 0), Integer.toString(i));
            chart.fault(i, 0);
        }
        check.due("none", Charts.way(chart, 0), "none");
    }

    private static void withoutAWay() {
        CableChart chart = Charts.at(0, 0, 1, 1, 2, 2);
        chart.trader(0, 1, 5000, 4, 0, 100);
        check.due("no cable at all", Charts.way(chart, 0) + "; " + Charts.sums(chart, 0), "none; -1 -1 -1, -1");
        chart.cable(1, 2, 1, 1, 1);
        check.due("a cable at one end alone", Charts.way(chart, 0) + "; " + Charts.sums(chart, 0),
                "none; -1 -1 -1, -1");
        chart.pass(1);
        check.due("an hour cut off", Charts.account(chart, 0), "0 4 1 0");
        chart.cable(0, 2, 1, 1, 0);
        check.due("a way", Charts.way(chart, 0) + "; " + Charts.sums(chart, 0), "1 0; 1 2 2, 1");
        chart.pass(1);
        check.due("an hour with it", Charts.account(chart, 0), "1 4 1 0");
        chart.price(0, 0);
        check.due("for nothing is not cut off", Charts.sums(chart, 0), "0 2 2, 0");
        chart.pass(1);
        check.due("an hour for nothing", Charts.account(chart, 0), "1 4 1 0");
    }

    private static void moreThanTheMost() {
        CableChart chart = dearest();
        chart.cable(0, 1, 1, 1, 0);
        chart.trader(1, 9, 4000, 0, 1, 100);
        chart.trader(1, 9, 3999, 0, 1, 100);
        chart.trader(1, 9, 4001, 0, 1, 100);
        chart.trader(0, 1, 1, 0, 1, 100);
        chart.trader(1, 2, 1, 0, 1, 100);
        chart.trader(0, 9, 5000, 0, 1, 100);
        chart.pass(1);
        check.due("as much as the most", Charts.account(chart, 0), "79992 0 0 0");
        check.due("one more", Charts.account(chart, 1), "79992 1 0 1");
        check.due("one less", Charts.account(chart, 2), "79992 0 0 0");
        check.due("the least delay, the least most", Charts.account(chart, 3), "0 0 0 0");
        check.due("more than the least most", Charts.account(chart, 4), "9999 1 0 1");
        check.due("the most most is enough for all", Charts.account(chart, 5), "79992 0 0 0");
    }

    // An hour

    private static void oneMoreHour() {
        CableChart chart = new CableChart();
        check.due("from 0", chart.pass(1), 1);
        check.due("one more", chart.pass(1), 2);
        check.due("many more", chart.pass(498), 500);
        check.throwsArgument("refused", () -> chart.pass(0));
        check.due("none by that", chart.pass(1), 501);
    }

    /** Ships that come, and mend, in the same hour: the lower number does so first. */
    private static void byRisingShips() {
        CableChart chart = atAFault();
        chart.ship(0, 5);
        chart.send(1, 0, 0);
        chart.send(0, 0, 0);
        chart.pass(9);
        check.due("the lower one mends", Charts.ship(chart, 0), "0 5 0 0 1");
        check.due("the higher one, though sent first, does not", Charts.ship(chart, 1), "0 5 0 0 0");
        CableChart meeting = atAFault();
        meeting.ship(0, 5);
        meeting.ship(0, 5);
        meeting.send(1, 0, 0);
        meeting.pass(8);
        meeting.send(0, 0, 0);
        meeting.send(2, 0, 0);
        meeting.pass(1);
        check.due("one that comes ahead of the mending", Charts.ship(meeting, 0), "2 5 0 6 0");
        check.due("one that mends", Charts.ship(meeting, 1), "0 5 0 0 1");
        check.due("one that comes behind the mending", Charts.ship(meeting, 2), "0 5 0 0 0");
        meeting.pass(8);
        check.due("mends none then", Charts.ship(meeting, 0), "0 5 0 0 0");
    }

    private static void anHourLess() {
        CableChart chart = atAFault();
        chart.ship(1, 1);
        chart.ship(0, 20);
        chart.send(0, 0, 0);
        chart.send(1, 0, 0);
        String[] first = {"1 5 0 1 0", "2 5 0 6 0", "2 5 0 5 0", "2 5 0 4 0", "2 5 0 3 0", "2 5 0 2 0", "2 5 0 1 0",
            "3 5 0 2 0", "3 5 0 1 0", "0 5 0 0 1", "0 5 0 0 1"};
        String[] second = {"1 5 0 5 0", "1 5 0 4 0", "1 5 0 3 0", "1 5 0 2 0", "1 5 0 1 0", "2 5 0 6 0", "2 5 0 5 0",
            "2 5 0 4 0", "2 5 0 3 0", "2 5 0 2 0", "2 5 0 1 0"};
        for (int hour = 0; hour < first.length; hour++) {
            check.due("hour " + hour, Charts.ship(chart, 0), first[hour]);
            check.due("hour " + hour + ", a slower one", Charts.ship(chart, 1), second[hour]);
            check.due("hour " + hour + ", one that is idle", Charts.ship(chart, 2), "0 0 0 0 0");
            chart.pass(1);
        }
    }

    private static void goesOnAtNone() {
        CableChart chart = Charts.at(0, 0, 99, 99);
        chart.ship(0, 1);
        chart.home(0, 1);
        chart.pass(197);
        check.due("one hour is left", Charts.ship(chart, 0), "1 99 99 1 0");
        chart.pass(1);
        check.due("none is left", Charts.ship(chart, 0), "0 99 99 0 0");
        check.due("may be sent in that hour", chart.home(0, 0), 198);
        chart.pass(199);
        check.due("passed by in one call", Charts.ship(chart, 0), "0 0 0 0 0");
        CableChart all = atAFault();
        all.send(0, 0, 0);
        all.pass(500);
        check.due("sailed, spliced and tested in one call", Charts.ship(all, 0), "0 5 0 0 1");
    }

    private static void asItIsThen() {
        CableChart chart = atAFault();
        chart.trader(0, 1, 10, 7, 0, 1000);
        chart.send(0, 0, 0);
        chart.pass(8);
        check.due("ahead of the mending", Charts.account(chart, 0), "0 56 8 0");
        chart.pass(1);
        check.due("in the hour of the mending", Charts.account(chart, 0), "5 56 8 0");
        chart.price(0, 9);
        chart.price(0, 8);
        chart.pass(1);
        check.due("at a new price", Charts.account(chart, 0), "13 56 8 0");
        chart.cable(0, 1, 1, 10, 1);
        chart.pass(1);
        check.due("over a new cable", Charts.account(chart, 0), "14 56 8 0");
        chart.fault(1, 0);
        chart.pass(1);
        check.due("fails over", Charts.account(chart, 0), "22 56 8 0");
        chart.fault(0, 0);
        chart.pass(1);
        check.due("cut off", Charts.account(chart, 0), "22 63 9 0");
    }

    private static void cutOffForAnHour() {
        CableChart chart = Charts.row(2);
        chart.trader(0, 1, 1, 3, 0, 1000);
        chart.trader(0, 1, 1, 0, 0, 1000);
        chart.fault(0, 0);
        chart.pass(1);
        check.due("one hour", Charts.account(chart, 0), "0 3 1 0");
        check.due("one hour without a credit", Charts.account(chart, 1), "0 0 1 0");
        chart.pass(300);
        check.due("more of them", Charts.account(chart, 0), "0 903 301 0");
        check.due("more of them without a credit", Charts.account(chart, 1), "0 0 301 0");
    }

    private static void lateAndPays() {
        CableChart chart = Charts.row(2);
        chart.trader(0, 1, 9, 7, 3, 1000);
        chart.trader(0, 1, 9, 7, 0, 1000);
        chart.pass(1);
        check.due("one hour", Charts.account(chart, 0), "5 3 0 1");
        check.due("one hour without a credit", Charts.account(chart, 1), "5 0 0 1");
        chart.pass(300);
        check.due("more of them", Charts.account(chart, 0), "1505 903 0 301");
        chart.price(0, 0);
        chart.pass(1);
        check.due("late for nothing", Charts.account(chart, 0), "1505 906 0 302");
    }

    private static void theCreditForThat() {
        CableChart chart = Charts.row(2);
        chart.trader(0, 1, 9, 9999, 1, 1000000);
        chart.trader(0, 1, 9, 1, 9999, 1000000);
        chart.trader(0, 1, 10, 9999, 9999, 1000000);
        chart.pass(1);
        check.due("late", Charts.account(chart, 0) + "; " + Charts.account(chart, 1), "5 1 0 1; 5 9999 0 1");
        check.due("in time", Charts.account(chart, 2), "5 0 0 0");
        chart.fault(0, 0);
        chart.pass(1);
        check.due("cut off", Charts.account(chart, 0) + "; " + Charts.account(chart, 1), "5 10000 1 1; 5 10000 1 1");
        check.due("cut off for the first time", Charts.account(chart, 2), "5 9999 1 0");
    }

    private static void theMostCredit() {
        CableChart chart = Charts.row(2);
        int[] mosts = {0, 1, 8, 9, 10, 11, 12, 1000000};
        for (int most : mosts) {
            chart.trader(0, 1, 9, 3, 2, most);
        }
        chart.pass(3);
        chart.fault(0, 0);
        chart.pass(1);
        credits("late for 3 and cut off for 1", chart, 0, 1, 8, 9, 9, 9, 9, 9);
        chart.pass(1);
        credits("one hour more", chart, 0, 1, 8, 9, 10, 11, 12, 12);
        chart.pass(500);
        credits("long afterwards", chart, 0, 1, 8, 9, 10, 11, 12, 1512);
        check.due("the hours are counted on", chart.account(0, 2), 502);
        check.due("one trader's most is not another one's", chart.account(7, 2), 502);
        theMostCreditOfAll();
    }

    private static void credits(String what, CableChart chart, int... credits) {
        for (int trader = 0; trader < credits.length; trader++) {
            check.due(what + ": trader " + trader, chart.account(trader, 1), credits[trader]);
        }
    }

    private static void theMostCreditOfAll() {
        CableChart chart = Charts.row(2);
        chart.trader(0, 1, 9, 9999, 9999, 1000000);
        chart.trader(0, 1, 9, 0, 9999, 9999);
        chart.pass(1);
        check.due("as much as the most in one hour", Charts.account(chart, 1), "5 9999 0 1");
        chart.pass(99);
        check.due("ahead of the most", Charts.account(chart, 0), "500 999900 0 100");
        chart.pass(1);
        check.due("the most", Charts.account(chart, 0), "505 1000000 0 101");
        chart.pass(1);
        check.due("no more, but it is late and pays", Charts.account(chart, 0), "510 1000000 0 102");
    }

    // Exceptions

    private static final int[] NUMBERS_THAT_ARE_NONE = {Integer.MIN_VALUE, -2, -1, 16, 32, 65536, Integer.MAX_VALUE};

    private static void noSuchOne() {
        for (int none : NUMBERS_THAT_ARE_NONE) {
            noSuchOne(Charts.full(), none, none, none, none);
        }
        noSuchOne(Charts.full(), 10, 16, 4, 12);
        noSuchOne(Charts.busy(), 9, 15, 3, 11);
        noSuchOne(new CableChart(), 0, 0, 0, 0);
        CableChart chart = Charts.full();
        for (int none : new int[] {Integer.MIN_VALUE, -1, 8, 9, 31, 32, 64, Integer.MAX_VALUE}) {
            check.throwsIndex("fault: no span " + none, () -> chart.fault(14, none));
            check.throwsIndex("send: no span " + none, () -> chart.send(0, 14, none));
        }
        check.throwsIndex("fault: no second span", () -> chart.fault(0, 1));
        check.throwsIndex("send: no second span", () -> chart.send(0, 0, 1));
    }

    private static void noSuchOne(CableChart chart, int island, int cable, int ship, int trader) {
        check.throwsIndex("cable: no island " + island, () -> chart.cable(island, 0, 1, 1, 1));
        check.throwsIndex("cable: no other island " + island, () -> chart.cable(0, island, 1, 1, 1));
        check.throwsIndex("price: no cable " + cable, () -> chart.price(cable, 1));
        check.throwsIndex("fault: no cable " + cable, () -> chart.fault(cable, 0));
        check.throwsIndex("ship: no island " + island, () -> chart.ship(island, 1));
        check.throwsIndex("send: no ship " + ship, () -> chart.send(ship, 0, 0));
        check.throwsIndex("send: no cable " + cable, () -> chart.send(0, cable, 0));
        check.throwsIndex("home: no ship " + ship, () -> chart.home(ship, 0));
        check.throwsIndex("home: no island " + island, () -> chart.home(0, island));
        check.throwsIndex("trader: no island " + island, () -> chart.trader(island, 0, 1, 1, 1, 1));
        check.throwsIndex("trader: no other island " + island, () -> chart.trader(0, island, 1, 1, 1, 1));
        check.throwsIndex("works: no cable " + cable, () -> chart.works(cable) ? 1 : 0);
        check.throwsIndex("shipOf: no ship " + ship, () -> chart.shipOf(ship, 0));
        check.throwsIndex("way: no trader " + trader, () -> chart.way(trader, 0));
        check.throwsIndex("sum: no trader " + trader, () -> chart.sum(trader, 0));
        check.throwsIndex("sumAnew: no trader " + trader, () -> chart.sumAnew(trader));
        check.throwsIndex("account: no trader " + trader, () -> chart.account(trader, 0));
        check.throwsIndex("reach: no island " + island, () -> chart.reach(island));
    }

    private static void argumentOutOfRange() {
        CableChart chart = Charts.busy();
        for (int far : FAR) {
            check.throwsArgument("island", () -> chart.island(far, far));
            check.throwsArgument("cable", () -> chart.cable(0, 1, far, far, far));
            check.throwsArgument("price", () -> chart.price(0, far));
            check.throwsArgument("ship", () -> chart.ship(0, far));
            check.throwsArgument("trader: delay", () -> chart.trader(0, 1, far, 1, 1, 1));
            check.throwsArgument("trader: cut", () -> chart.trader(0, 1, 1, far, 1, 1));
            check.throwsArgument("trader: late", () -> chart.trader(0, 1, 1, 1, far, 1));
            check.throwsArgument("pass", () -> chart.pass(far));
            check.throwsArgument("shipOf", () -> chart.shipOf(0, far));
            check.throwsArgument("sum", () -> chart.sum(0, far));
            check.throwsArgument("account", () -> chart.account(0, far));
        }
        check.throwsArgument("trader: most", () -> chart.trader(0, 1, 1, 1, 1, Integer.MIN_VALUE));
        check.throwsArgument("trader: most", () -> chart.trader(0, 1, 1, 1, 1, Integer.MAX_VALUE));
    }

    private static void notPossibleNow() {
        CableChart chart = atAFault();
        chart.cable(0, 1, 2, 1, 1);
        check.throwsState("a fault at a fault", () -> chart.fault(0, 0));
        check.throwsState("to a span without a fault", () -> chart.send(0, 1, 1));
        chart.fault(1, 0);
        check.throwsState("to the span beside a fault", () -> chart.send(0, 1, 1));
        chart.send(0, 0, 0);
        check.throwsState("a ship that sails, to a fault", () -> chart.send(0, 0, 0));
        check.throwsState("a ship that sails, to another fault", () -> chart.send(0, 1, 0));
        check.throwsState("a ship that sails, to an island", () -> chart.home(0, 0));
        check.throwsState("a ship that sails, to no fault", () -> chart.send(0, 1, 1));
    }

    private static void moreThanTold() {
        CableChart chart = Charts.full();
        check.throwsState("an island", () -> chart.island(0, 0));
        check.throwsState("a cable", () -> chart.cable(0, 1, 1, 1, 1));
        check.throwsState("a ship", () -> chart.ship(0, 1));
        check.throwsState("a trader", () -> chart.trader(0, 1, 1, 1, 1, 1));
        chart.pass(500);
        check.throwsState("an island, later", () -> chart.island(99, 99));
        check.throwsState("a cable, later", () -> chart.cable(9, 8, 8, 500, 9999));
        check.throwsState("a ship, later", () -> chart.ship(9, 20));
        check.throwsState("a trader, later", () -> chart.trader(9, 8, 5000, 9999, 9999, 1000000));
    }

    private static void indexGoesFirst() {
        CableChart chart = Charts.full();
        check.throwsIndex("cable: and the same, and out of range, and full", () -> chart.cable(10, 10, 0, 0, -1));
        check.throwsIndex("cable: the other, and out of range", () -> chart.cable(0, 10, 9, 501, 10000));
        check.throwsIndex("cable: and full", () -> chart.cable(0, 10, 1, 1, 1));
        check.throwsIndex("price: and out of range", () -> chart.price(16, 10000));
        check.throwsIndex("ship: and out of range", () -> chart.ship(10, 0));
        check.throwsIndex("ship: and full", () -> chart.ship(10, 1));
        check.throwsIndex("send: a ship that sails, no cable", () -> chart.send(2, 16, 0));
        check.throwsIndex("send: a ship that sails, no span", () -> chart.send(2, 0, 1));
        check.throwsIndex("send: no ship, no fault", () -> chart.send(4, 1, 0));
        check.throwsIndex("home: a ship that sails, no island", () -> chart.home(2, 10));
        check.throwsIndex("trader: and the same, and out of range", () -> chart.trader(-1, -1, 0, -1, -1, -1));
        check.throwsIndex("trader: the other, and out of range", () -> chart.trader(0, 10, 0, 1, 1, 1));
        check.throwsIndex("trader: and full", () -> chart.trader(10, 0, 1, 1, 1, 1));
        check.throwsIndex("shipOf: and out of range", () -> chart.shipOf(4, 5));
        check.throwsIndex("sum: and out of range", () -> chart.sum(12, 3));
        check.throwsIndex("account: and out of range", () -> chart.account(12, 4));
        for (int cable = 0; cable < 16; cable++) {
            for (int span = 0; span < (cable < 8 ? 1 : 8); span++) {
                int of = cable;
                int at = span;
                Check.outcome(() -> chart.fault(of, at));
            }
        }
        check.throwsIndex("fault: and all spans have one", () -> chart.fault(0, 8));
    }

    private static void argumentGoesSecond() {
        CableChart chart = Charts.full();
        check.throwsArgument("island: x, and full", () -> chart.island(100, 0));
        check.throwsArgument("island: y, and full", () -> chart.island(0, -1));
        check.throwsArgument("cable: the same, and full", () -> chart.cable(0, 0, 1, 1, 1));
        check.throwsArgument("cable: spans, and full", () -> chart.cable(0, 1, 9, 1, 1));
        check.throwsArgument("cable: delay, and full", () -> chart.cable(0, 1, 1, 0, 1));
        check.throwsArgument("cable: price, and full", () -> chart.cable(0, 1, 1, 1, 10000));
        check.throwsArgument("ship: speed, and full", () -> chart.ship(0, 21));
        check.throwsArgument("trader: the same, and full", () -> chart.trader(3, 3, 1, 1, 1, 1));
        check.throwsArgument("trader: delay, and full", () -> chart.trader(0, 1, 5001, 1, 1, 1));
        check.throwsArgument("trader: cut, and full", () -> chart.trader(0, 1, 1, 10000, 1, 1));
        check.throwsArgument("trader: late, and full", () -> chart.trader(0, 1, 1, 1, -1, 1));
        check.throwsArgument("trader: most, and full", () -> chart.trader(0, 1, 1, 1, 1, 1000001));
    }

    private static void aThrowChangesNothing() {
        changesNothing("island", chart -> {
            check.throwsArgument("island", () -> chart.island(5, 100));
            check.throwsArgument("island", () -> chart.island(100, 5));
        });
        changesNothing("cable", TermsBoundariesTest::refusedCables);
        changesNothing("price", chart -> {
            check.throwsArgument("price", () -> chart.price(0, 10000));
            check.throwsArgument("price", () -> chart.price(1, -1));
            check.throwsIndex("price", () -> chart.price(15, 1));
        });
        changesNothing("fault", chart -> {
            check.throwsState("fault", () -> chart.fault(3, 0));
            check.throwsIndex("fault", () -> chart.fault(3, 1));
            check.throwsIndex("fault", () -> chart.fault(15, 0));
        });
        changesNothing("ship", chart -> {
            check.throwsIndex("ship", () -> chart.ship(9, 1));
            check.throwsArgument("ship", () -> chart.ship(1, 21));
        });
        changesNothing("send", TermsBoundariesTest::refusedSends);
        changesNothing("home", TermsBoundariesTest::refusedHomes);
        changesNothing("trader", TermsBoundariesTest::refusedTraders);
        changesNothing("pass", chart -> {
            check.throwsArgument("pass", () -> chart.pass(0));
            check.throwsArgument("pass", () -> chart.pass(501));
        });
        changesNothing("asking", TermsBoundariesTest::refusedQuestions);
        changesNothing("full", chart -> {
            fill(chart);
            moreOfEach(chart);
        }, TermsBoundariesTest::fill);
    }

    private static void refusedCables(CableChart chart) {
        check.throwsIndex("cable", () -> chart.cable(0, 9, 1, 1, 0));
        check.throwsIndex("cable", () -> chart.cable(9, 0, 1, 1, 0));
        check.throwsArgument("cable", () -> chart.cable(0, 0, 1, 1, 0));
        check.throwsArgument("cable", () -> chart.cable(0, 8, 9, 1, 0));
        check.throwsArgument("cable", () -> chart.cable(0, 8, 1, 501, 0));
        check.throwsArgument("cable", () -> chart.cable(0, 8, 1, 1, -1));
    }

    /** Ship 0 is idle, ship 1 splices at cable 0, ship 2 sails to cable 4. */
    private static void refusedSends(CableChart chart) {
        check.throwsState("send: splices", () -> chart.send(1, 3, 0));
        check.throwsState("send: sails", () -> chart.send(2, 11, 7));
        check.throwsState("send: no fault", () -> chart.send(0, 1, 0));
        check.throwsIndex("send: no span", () -> chart.send(0, 3, 1));
        check.throwsIndex("send: no cable", () -> chart.send(0, 15, 0));
        check.throwsIndex("send: no ship", () -> chart.send(3, 3, 0));
    }

    private static void refusedHomes(CableChart chart) {
        check.throwsState("home: splices", () -> chart.home(1, 4));
        check.throwsState("home: sails", () -> chart.home(2, 4));
        check.throwsIndex("home: no island", () -> chart.home(0, 9));
        check.throwsIndex("home: no ship", () -> chart.home(3, 4));
    }

    private static void refusedTraders(CableChart chart) {
        check.throwsIndex("trader", () -> chart.trader(9, 0, 1, 1, 1, 1));
        check.throwsIndex("trader", () -> chart.trader(0, 9, 1, 1, 1, 1));
        check.throwsArgument("trader", () -> chart.trader(0, 0, 1, 1, 1, 1));
        check.throwsArgument("trader", () -> chart.trader(0, 1, 0, 1, 1, 1));
        check.throwsArgument("trader", () -> chart.trader(0, 1, 1, -1, 1, 1));
        check.throwsArgument("trader", () -> chart.trader(0, 1, 1, 1, 10000, 1));
        check.throwsArgument("trader", () -> chart.trader(0, 1, 1, 1, 1, 1000001));
    }

    private static void refusedQuestions(CableChart chart) {
        check.throwsIndex("works", () -> chart.works(15) ? 1 : 0);
        check.throwsIndex("faultAt", () -> chart.faultAt(-1));
        check.throwsArgument("shipOf", () -> chart.shipOf(0, 5));
        check.throwsIndex("shipOf", () -> chart.shipOf(3, 0));
        check.throwsIndex("way", () -> chart.way(0, -1));
        check.throwsIndex("way", () -> chart.way(11, 0));
        check.throwsArgument("sum", () -> chart.sum(0, 3));
        check.throwsIndex("sum", () -> chart.sum(11, 0));
        check.throwsIndex("sumAnew", () -> chart.sumAnew(11));
        check.throwsArgument("account", () -> chart.account(0, 4));
        check.throwsIndex("account", () -> chart.account(11, 0));
        check.throwsIndex("reach", () -> chart.reach(9));
    }

    private static void fill(CableChart chart) {
        chart.island(99, 99);
        chart.cable(9, 0, 8, 500, 9999);
        chart.ship(9, 20);
        chart.trader(9, 0, 500, 1, 1, 1);
    }

    private static void moreOfEach(CableChart chart) {
        check.throwsState("island", () -> chart.island(0, 0));
        check.throwsState("cable", () -> chart.cable(0, 9, 1, 1, 0));
        check.throwsState("ship", () -> chart.ship(0, 20));
        check.throwsState("trader", () -> chart.trader(0, 9, 1, 9, 9, 9));
    }

    private static void changesNothing(String what, Consumer<CableChart> refused) {
        changesNothing(what, refused, twin -> { });
    }

    /** What can't be asked, as where an island is, shows in what comes of it later. */
    private static void changesNothing(String what, Consumer<CableChart> refused, Consumer<CableChart> instead) {
        CableChart chart = Charts.busy();
        CableChart twin = Charts.busy();
        refused.accept(chart);
        instead.accept(twin);
        check.due(what + ": at once", Charts.state(chart), Charts.state(twin));
        check.due(what + ": the hour", chart.pass(60), twin.pass(60));
        check.due(what + ": later", Charts.state(chart), Charts.state(twin));
        chart.home(0, 8);
        twin.home(0, 8);
        check.due(what + ": a ship", Charts.ship(chart, 0), Charts.ship(twin, 0));
        for (int cable = 0; cable < 15; cable++) {
            check.due(what + ": the price of " + cable, chart.price(cable, 1), twin.price(cable, 1));
        }
    }
}
