/** For each promise of the document: ordinary inputs, the edges that it names, and wrong inputs. */
public final class PromisesTest {
    private static final Check check = new Check("PromisesTest");

    public static void main(String[] args) {
        promise1();
        promise2();
        promise3();
        promise4();
        promise5();
        promise6();
        promise7();
        promise7PlacesOfSpans();
        promise7SailsSplicesTests();
        promise7TwoShipsAtOneFault();
        promise7AnotherFaultAtTheSpan();
        promise8();
        promise9();
        promise10();
        promise10ShipsBeforeTraders();
        promise11();
        promise12();
        promise13();
        promise14();
        promise14Ties();
        promise14FailsOver();
        promise15();
        promise16();
        promise17();
        promise17LateAndCut();
        promise17MostCredit();
        promise17ManyPrices();
        promise18();
        check.end();
    }

    private static void way(String what, CableChart chart, int trader, int... cables) {
        for (int place = 0; place < cables.length; place++) {
            check.due(what + ": way at " + place, chart.way(trader, place), cables[place]);
        }
        check.due(what + ": way behind its end", chart.way(trader, cables.length), CableChart.NONE);
    }

    private static void sums(String what, CableChart chart, int trader, int price, int delay, int cables) {
        check.due(what + ": prices", chart.sum(trader, 0), price);
        check.due(what + ": delays", chart.sum(trader, 1), delay);
        check.due(what + ": cables", chart.sum(trader, 2), cables);
        check.due(what + ": prices anew", chart.sumAnew(trader), price);
    }

    private static void shipIs(String what, CableChart chart, int ship, int state, int x, int y, int hours) {
        check.due(what + ": state", chart.shipOf(ship, 0), state);
        check.due(what + ": x", chart.shipOf(ship, 1), x);
        check.due(what + ": y", chart.shipOf(ship, 2), y);
        check.due(what + ": hours", chart.shipOf(ship, 3), hours);
    }

    private static void promise1() {
        CableChart chart = new CableChart();
        check.throwsIndex("1: no island", () -> chart.reach(0));
        check.throwsIndex("1: no cable", () -> chart.works(0) ? 1 : 0);
        check.throwsIndex("1: no ship", () -> chart.shipOf(0, 0));
        check.throwsIndex("1: no trader", () -> chart.account(0, 0));
        check.due("1: no fault", chart.faultAt(0), CableChart.NONE);
        check.due("1: at the hour 0", chart.pass(1), 1);
        CableChart other = new CableChart();
        other.island(1, 1);
        check.throwsIndex("1: objects apart", () -> chart.reach(0));
        check.due("1: NONE", CableChart.NONE, -1);
        check.due("1: IDLE", CableChart.IDLE, 0);
        check.due("1: SAILS", CableChart.SAILS, 1);
        check.due("1: SPLICES", CableChart.SPLICES, 2);
        check.due("1: TESTS", CableChart.TESTS, 3);
    }

    private static void promise2() {
        CableChart chart = new CableChart();
        check.throwsArgument("2: x below", () -> chart.island(-1, 0));
        check.throwsArgument("2: x above", () -> chart.island(100, 0));
        check.throwsArgument("2: y below", () -> chart.island(0, -1));
        check.throwsArgument("2: y above", () -> chart.island(0, 100));
        check.throwsArgument("2: far off", () -> chart.island(Integer.MIN_VALUE, Integer.MAX_VALUE));
        check.due("2: first", chart.island(0, 99), 0);
        check.due("2: second", chart.island(99, 0), 1);
        for (int i = 2; i < 10; i++) {
            check.due("2: the same place", chart.island(50, 50), i);
        }
        check.throwsState("2: one more than told", () -> chart.island(1, 1));
        check.throwsArgument("2: wrong and one more", () -> chart.island(1, 100));
        check.throwsIndex("2: none is added by a throw", () -> chart.reach(10));
        chart.ship(0, 1);
        chart.ship(1, 1);
        shipIs("2: place of the first", chart, 0, CableChart.IDLE, 0, 99, 0);
        shipIs("2: place of the second", chart, 1, CableChart.IDLE, 99, 0, 0);
    }

    private static void promise3() {
        CableChart chart = new CableChart();
        chart.island(0, 0);
        chart.island(9, 9);
        check.throwsIndex("3: first below", () -> chart.cable(-1, 1, 1, 1, 1));
        check.throwsIndex("3: first above", () -> chart.cable(2, 1, 1, 1, 1));
        check.throwsIndex("3: other below", () -> chart.cable(0, -1, 1, 1, 1));
        check.throwsIndex("3: other above", () -> chart.cable(0, 2, 1, 1, 1));
        check.throwsIndex("3: the same that is none", () -> chart.cable(2, 2, 1, 1, 1));
        check.throwsIndex("3: none and out of range", () -> chart.cable(0, 2, 0, 0, -1));
        check.throwsArgument("3: the same", () -> chart.cable(1, 1, 1, 1, 1));
        check.throwsArgument("3: spans below", () -> chart.cable(0, 1, 0, 1, 1));
        check.throwsArgument("3: spans above", () -> chart.cable(0, 1, 9, 1, 1));
        check.throwsArgument("3: delay below", () -> chart.cable(0, 1, 1, 0, 1));
        check.throwsArgument("3: delay above", () -> chart.cable(0, 1, 1, 501, 1));
        check.throwsArgument("3: price below", () -> chart.cable(0, 1, 1, 1, -1));
        check.throwsArgument("3: price above", () -> chart.cable(0, 1, 1, 1, 10000));
        check.due("3: the least", chart.cable(0, 1, 1, 1, 0), 0);
        check.due("3: the most", chart.cable(1, 0, 8, 500, 9999), 1);
        for (int i = 2; i < 16; i++) {
            check.due("3: one more", chart.cable(0, 1, 1, 500, 9999), i);
        }
        check.throwsState("3: more than told", () -> chart.cable(0, 1, 1, 1, 1));
        check.throwsArgument("3: wrong and more", () -> chart.cable(0, 1, 1, 1, 10000));
        check.throwsIndex("3: none and more", () -> chart.cable(0, 2, 1, 1, 1));
        check.throwsIndex("3: none is laid by a throw", () -> chart.works(16) ? 1 : 0);
        check.due("3: a new cable works", chart.works(15), true);
        chart.trader(0, 1, 5000, 0, 0, 0);
        sums("3: over the least", chart, 0, 0, 1, 1);
        CableChart late = Charts.row(2);
        late.trader(0, 1, 5000, 0, 0, 0);
        way("3: ahead of a cheaper one", late, 0, 0);
        late.cable(1, 0, 1, 1, 4);
        way("3: a cheaper one is taken", late, 0, 1);
    }

    private static void promise4() {
        CableChart chart = Charts.row(2);
        chart.cable(0, 1, 1, 10, 6);
        chart.trader(0, 1, 5000, 0, 0, 0);
        check.throwsIndex("4: cable below", () -> chart.price(-1, 1));
        check.throwsIndex("4: cable above", () -> chart.price(2, 1));
        check.throwsIndex("4: cable above, price wrong", () -> chart.price(2, -1));
        check.throwsArgument("4: price below", () -> chart.price(0, -1));
        check.throwsArgument("4: price above", () -> chart.price(0, 10000));
        way("4: before", chart, 0, 0);
        check.due("4: what it was", chart.price(0, 9999), 5);
        way("4: after", chart, 0, 1);
        sums("4: after", chart, 0, 6, 10, 1);
        check.due("4: the most", chart.price(0, 0), 9999);
        check.due("4: the least", chart.price(0, 7), 0);
        check.due("4: another cable", chart.price(1, 6), 6);
    }

    private static void promise5() {
        CableChart chart = Charts.row(3);
        chart.cable(0, 2, 8, 1, 1);
        check.throwsIndex("5: cable below", () -> chart.fault(-1, 0));
        check.throwsIndex("5: cable above", () -> chart.fault(3, 0));
        check.throwsIndex("5: span below", () -> chart.fault(2, -1));
        check.throwsIndex("5: span above", () -> chart.fault(2, 8));
        check.throwsIndex("5: span above of another cable", () -> chart.fault(0, 1));
        check.due("5: first", chart.fault(2, 7), 1);
        check.due("5: second", chart.fault(0, 0), 2);
        check.due("5: third", chart.fault(2, 0), 3);
        check.throwsState("5: has one", () -> chart.fault(2, 7));
        check.due("5: fourth", chart.fault(2, 1), 4);
        check.due("5: no fault", chart.works(1), true);
        check.due("5: a fault", chart.works(0), false);
        allFaults();
    }

    private static void allFaults() {
        CableChart chart = new CableChart();
        chart.island(0, 0);
        chart.island(9, 9);
        for (int cable = 0; cable < 16; cable++) {
            chart.cable(0, 1, 8, 1, 1);
        }
        for (int i = 0; i < 128; i++) {
            check.due("5: of all cables", chart.fault(15 - i / 8, i % 8), i + 1);
        }
        check.throwsState("5: all have one", () -> chart.fault(0, 0));
        check.due("5: the youngest", chart.faultAt(127), 7);
        check.due("5: not so many", chart.faultAt(128), CableChart.NONE);
    }

    private static void promise6() {
        CableChart chart = Charts.row(2);
        check.throwsIndex("6: island below", () -> chart.ship(-1, 1));
        check.throwsIndex("6: island above", () -> chart.ship(2, 1));
        check.throwsIndex("6: island above, speed wrong", () -> chart.ship(2, 0));
        check.throwsArgument("6: speed below", () -> chart.ship(0, 0));
        check.throwsArgument("6: speed above", () -> chart.ship(0, 21));
        check.due("6: the slowest", chart.ship(1, 1), 0);
        check.due("6: the fastest", chart.ship(0, 20), 1);
        shipIs("6: at its island", chart, 0, CableChart.IDLE, 10, 0, 0);
        check.due("6: has mended none", chart.shipOf(0, 4), 0);
        check.due("6: third", chart.ship(0, 20), 2);
        check.due("6: fourth", chart.ship(0, 20), 3);
        check.throwsState("6: more than told", () -> chart.ship(0, 20));
        check.throwsArgument("6: wrong and more", () -> chart.ship(0, 21));
        check.throwsIndex("6: none and more", () -> chart.ship(2, 20));
        check.throwsIndex("6: none is told by a throw", () -> chart.shipOf(4, 0));
        check.due("6: slow", chart.home(0, 0), 10);
        check.due("6: fast", chart.home(1, 1), 1);
    }

    private static void promise7() {
        CableChart chart = Charts.row(3);
        chart.ship(0, 2);
        chart.fault(1, 0);
        check.throwsIndex("7: ship below", () -> chart.send(-1, 1, 0));
        check.throwsIndex("7: ship above", () -> chart.send(1, 1, 0));
        check.throwsIndex("7: cable below", () -> chart.send(0, -1, 0));
        check.throwsIndex("7: cable above", () -> chart.send(0, 2, 0));
        check.throwsIndex("7: span below", () -> chart.send(0, 1, -1));
        check.throwsIndex("7: span above", () -> chart.send(0, 1, 1));
        check.throwsState("7: no fault", () -> chart.send(0, 0, 0));
        shipIs("7: a throw changes nothing", chart, 0, CableChart.IDLE, 0, 0, 0);
        check.due("7: hours, rounded up", chart.send(0, 1, 0), 8);
        shipIs("7: sails", chart, 0, CableChart.SAILS, 15, 0, 8);
        check.throwsState("7: it sails", () -> chart.send(0, 1, 0));
        check.throwsIndex("7: it sails, no cable", () -> chart.send(0, 2, 0));
        chart.pass(8);
        check.throwsState("7: it splices", () -> chart.send(0, 1, 0));
        chart.pass(6);
        check.throwsState("7: it tests", () -> chart.send(0, 1, 0));
        chart.pass(2);
        check.throwsState("7: idle, but the fault is mended", () -> chart.send(0, 1, 0));
        chart.fault(1, 0);
        check.due("7: it is there", chart.send(0, 1, 0), 0);
        shipIs("7: comes as it is sent", chart, 0, CableChart.SPLICES, 15, 0, 6);
        chart.cable(0, 2, 2, 1, 1);
        chart.ship(0, 1);
        chart.fault(2, 1);
        check.throwsState("7: the fault is at another span", () -> chart.send(1, 2, 0));
    }

    /** The sum is cut before it is added: the ways up and down are not alike. */
    private static void promise7PlacesOfSpans() {
        int[] ahead = {2, 8, 14, 20, 26, 32, 38, 44};
        for (int span = 0; span < 8; span++) {
            CableChart chart = new CableChart();
            chart.island(0, 50);
            chart.island(47, 3);
            chart.cable(0, 1, 8, 1, 1);
            chart.fault(0, span);
            chart.ship(0, 20);
            chart.send(0, 0, span);
            check.due("7: x of span " + span, chart.shipOf(0, 1), ahead[span]);
            check.due("7: y of span " + span, chart.shipOf(0, 2), 50 - ahead[span]);
        }
        CableChart chart = new CableChart();
        chart.island(50, 50);
        chart.island(3, 97);
        chart.cable(0, 1, 3, 1, 1);
        chart.cable(1, 0, 3, 1, 1);
        chart.ship(0, 1);
        chart.fault(0, 0);
        chart.fault(1, 0);
        check.due("7: both ways together", chart.send(0, 0, 0), 14);
        shipIs("7: from the first one", chart, 0, CableChart.SAILS, 43, 57, 14);
        chart.ship(0, 1);
        check.due("7: from the other end", chart.send(1, 1, 0), 80);
        shipIs("7: from the other end", chart, 1, CableChart.SAILS, 10, 90, 80);
    }

    private static void promise7SailsSplicesTests() {
        CableChart chart = Charts.row(2);
        chart.trader(0, 1, 5000, 0, 0, 0);
        chart.ship(0, 5);
        chart.fault(0, 0);
        check.due("7: one hour", chart.send(0, 0, 0), 1);
        chart.pass(1);
        shipIs("7: has come", chart, 0, CableChart.SPLICES, 5, 0, 6);
        chart.pass(5);
        shipIs("7: splices for 6", chart, 0, CableChart.SPLICES, 5, 0, 1);
        chart.pass(1);
        shipIs("7: tests for 2", chart, 0, CableChart.TESTS, 5, 0, 2);
        chart.pass(1);
        shipIs("7: the last hour", chart, 0, CableChart.TESTS, 5, 0, 1);
        check.due("7: not mended ahead of it", chart.works(0), false);
        check.due("7: none mended yet", chart.shipOf(0, 4), 0);
        chart.pass(1);
        shipIs("7: idle there", chart, 0, CableChart.IDLE, 5, 0, 0);
        check.due("7: mended", chart.works(0), true);
        check.due("7: mended by it", chart.shipOf(0, 4), 1);
        way("7: the way is back", chart, 0, 0);
        chart.pass(3);
        shipIs("7: stays idle", chart, 0, CableChart.IDLE, 5, 0, 0);
    }

    private static void promise7TwoShipsAtOneFault() {
        CableChart chart = Charts.row(2);
        chart.fault(0, 0);
        chart.ship(0, 5);
        chart.ship(0, 1);
        chart.ship(0, 5);
        chart.ship(1, 1);
        chart.send(0, 0, 0);
        chart.send(1, 0, 0);
        chart.send(2, 0, 0);
        chart.pass(5);
        shipIs("7: splices too", chart, 1, CableChart.SPLICES, 5, 0, 6);
        check.due("7: late ship", chart.send(3, 0, 0), 5);
        chart.pass(4);
        check.due("7: of two the lower one mends", chart.shipOf(0, 4), 1);
        check.due("7: and not the higher one", chart.shipOf(2, 4), 0);
        shipIs("7: but it is idle too", chart, 2, CableChart.IDLE, 5, 0, 0);
        shipIs("7: goes on for nothing", chart, 1, CableChart.SPLICES, 5, 0, 2);
        chart.pass(1);
        shipIs("7: the fault is gone when it comes", chart, 3, CableChart.IDLE, 5, 0, 0);
        chart.pass(3);
        shipIs("7: tests for nothing", chart, 1, CableChart.IDLE, 5, 0, 0);
        check.due("7: mended none", chart.shipOf(1, 4), 0);
        check.due("7: comes for none", chart.shipOf(3, 4), 0);
        lowerShipComesAsTheHigherOneMends();
    }

    private static void lowerShipComesAsTheHigherOneMends() {
        CableChart chart = Charts.row(2);
        chart.fault(0, 0);
        chart.ship(0, 1);
        chart.ship(0, 5);
        chart.ship(0, 1);
        chart.send(1, 0, 0);
        chart.pass(4);
        chart.send(0, 0, 0);
        chart.send(2, 0, 0);
        chart.pass(5);
        check.due("7: mended by the middle one", chart.shipOf(1, 4), 1);
        check.due("7: the lower one came earlier", chart.shipOf(0, 0), CableChart.SPLICES);
        check.due("7: the higher one came later", chart.shipOf(2, 0), CableChart.IDLE);
    }

    private static void promise7AnotherFaultAtTheSpan() {
        CableChart chart = Charts.row(2);
        chart.fault(0, 0);
        chart.ship(0, 5);
        chart.ship(0, 1);
        chart.send(0, 0, 0);
        chart.send(1, 0, 0);
        chart.pass(9);
        check.due("7: mended", chart.works(0), true);
        chart.fault(0, 0);
        chart.pass(4);
        check.due("7: the fault that there is is mended", chart.shipOf(1, 4), 1);
        check.due("7: mended again", chart.works(0), true);
    }

    private static void promise8() {
        CableChart chart = Charts.row(2);
        chart.island(3, 4);
        chart.ship(0, 2);
        check.throwsIndex("8: ship below", () -> chart.home(-1, 0));
        check.throwsIndex("8: ship above", () -> chart.home(1, 0));
        check.throwsIndex("8: island below", () -> chart.home(0, -1));
        check.throwsIndex("8: island above", () -> chart.home(0, 3));
        check.due("8: rounded up", chart.home(0, 2), 4);
        shipIs("8: sails", chart, 0, CableChart.SAILS, 3, 4, 4);
        check.throwsState("8: it sails", () -> chart.home(0, 1));
        check.throwsIndex("8: it sails, no island", () -> chart.home(0, 3));
        chart.pass(3);
        shipIs("8: sails still", chart, 0, CableChart.SAILS, 3, 4, 1);
        chart.pass(1);
        shipIs("8: has come", chart, 0, CableChart.IDLE, 3, 4, 0);
        check.due("8: no way", chart.home(0, 2), 0);
        shipIs("8: has come as it is sent", chart, 0, CableChart.IDLE, 3, 4, 0);
        homeIsNoFault();
    }

    /** A ship that was at a fault and goes to an island does not splice there. */
    private static void homeIsNoFault() {
        CableChart chart = Charts.row(2);
        chart.ship(0, 20);
        chart.fault(0, 0);
        chart.send(0, 0, 0);
        chart.pass(1);
        check.throwsState("8: it splices", () -> chart.home(0, 1));
        chart.pass(6);
        check.throwsState("8: it tests", () -> chart.home(0, 1));
        chart.pass(2);
        chart.fault(0, 0);
        check.due("8: from a fault", chart.home(0, 1), 1);
        chart.pass(1);
        shipIs("8: idle at the island", chart, 0, CableChart.IDLE, 10, 0, 0);
        chart.pass(9);
        check.due("8: mends none", chart.shipOf(0, 4), 1);
        check.due("8: the fault stays", chart.works(0), false);
    }

    private static void promise9() {
        CableChart chart = Charts.row(2);
        check.throwsIndex("9: from below", () -> chart.trader(-1, 1, 1, 1, 1, 1));
        check.throwsIndex("9: from above", () -> chart.trader(2, 1, 1, 1, 1, 1));
        check.throwsIndex("9: to below", () -> chart.trader(0, -1, 1, 1, 1, 1));
        check.throwsIndex("9: to above", () -> chart.trader(0, 2, 1, 1, 1, 1));
        check.throwsIndex("9: the same that is none", () -> chart.trader(2, 2, 0, 1, 1, 1));
        check.throwsArgument("9: the same", () -> chart.trader(1, 1, 1, 1, 1, 1));
        check.throwsArgument("9: delay below", () -> chart.trader(0, 1, 0, 1, 1, 1));
        check.throwsArgument("9: delay above", () -> chart.trader(0, 1, 5001, 1, 1, 1));
        check.throwsArgument("9: cut below", () -> chart.trader(0, 1, 1, -1, 1, 1));
        check.throwsArgument("9: cut above", () -> chart.trader(0, 1, 1, 10000, 1, 1));
        check.throwsArgument("9: late below", () -> chart.trader(0, 1, 1, 1, -1, 1));
        check.throwsArgument("9: late above", () -> chart.trader(0, 1, 1, 1, 10000, 1));
        check.throwsArgument("9: most below", () -> chart.trader(0, 1, 1, 1, 1, -1));
        check.throwsArgument("9: most above", () -> chart.trader(0, 1, 1, 1, 1, 1000001));
        check.due("9: the least", chart.trader(0, 1, 1, 0, 0, 0), 0);
        check.due("9: the most", chart.trader(1, 0, 5000, 9999, 9999, 1000000), 1);
        way("9: has its way at once", chart, 1, 0);
        for (int i = 2; i < 12; i++) {
            check.due("9: one more", chart.trader(0, 1, 1, 1, 1, 1), i);
        }
        check.throwsState("9: more than told", () -> chart.trader(0, 1, 1, 1, 1, 1));
        check.throwsArgument("9: wrong and more", () -> chart.trader(0, 1, 0, 1, 1, 1));
        check.throwsIndex("9: none and more", () -> chart.trader(0, 2, 1, 1, 1, 1));
        check.throwsIndex("9: none is told by a throw", () -> chart.sum(12, 0));
    }

    private static void promise10() {
        CableChart chart = Charts.row(2);
        check.throwsArgument("10: below", () -> chart.pass(0));
        check.throwsArgument("10: far below", () -> chart.pass(Integer.MIN_VALUE));
        check.throwsArgument("10: above", () -> chart.pass(501));
        check.due("10: the least", chart.pass(1), 1);
        check.due("10: the most", chart.pass(500), 501);
        chart.trader(0, 1, 10, 0, 0, 0);
        check.due("10: no hour ahead of the trader", chart.account(0, 0), 0);
        check.due("10: each of them", chart.pass(3), 504);
        check.due("10: is paid", chart.account(0, 0), 15);
    }

    private static void promise10ShipsBeforeTraders() {
        CableChart chart = Charts.row(2);
        chart.trader(0, 1, 5000, 7, 0, 1000);
        chart.ship(0, 20);
        chart.fault(0, 0);
        chart.send(0, 0, 0);
        chart.pass(20);
        check.due("10: cut off till the hour of mending", chart.account(0, 2), 8);
        check.due("10: and paid in it", chart.account(0, 0), 12 * 5);
        check.due("10: credits", chart.account(0, 1), 56);
    }

    private static void promise11() {
        CableChart chart = Charts.row(2);
        chart.cable(0, 1, 2, 1, 1);
        chart.ship(0, 20);
        check.throwsIndex("11: below", () -> chart.works(-1) ? 1 : 0);
        check.throwsIndex("11: above", () -> chart.works(2) ? 1 : 0);
        check.due("11: new", chart.works(1), true);
        chart.fault(1, 0);
        chart.fault(1, 1);
        check.due("11: two faults", chart.works(1), false);
        check.due("11: of another cable", chart.works(0), true);
        chart.send(0, 1, 0);
        chart.pass(9);
        check.due("11: one fault", chart.works(1), false);
        chart.send(0, 1, 1);
        chart.pass(9);
        check.due("11: none", chart.works(1), true);
    }

    private static void promise12() {
        CableChart chart = Charts.row(3);
        chart.cable(0, 2, 8, 1, 1);
        chart.ship(1, 20);
        check.throwsIndex("12: below 0", () -> chart.faultAt(-1));
        check.throwsIndex("12: far below 0", () -> chart.faultAt(Integer.MIN_VALUE));
        check.due("12: none", chart.faultAt(0), CableChart.NONE);
        check.due("12: none, far", chart.faultAt(Integer.MAX_VALUE), CableChart.NONE);
        chart.fault(2, 5);
        chart.fault(1, 0);
        chart.fault(2, 3);
        check.due("12: the oldest", chart.faultAt(0), 21);
        check.due("12: the next", chart.faultAt(1), 8);
        check.due("12: the last", chart.faultAt(2), 19);
        check.due("12: no more", chart.faultAt(3), CableChart.NONE);
        chart.send(0, 1, 0);
        chart.pass(9);
        check.due("12: the oldest stays", chart.faultAt(0), 21);
        check.due("12: the mended one is gone", chart.faultAt(1), 19);
        check.due("12: one less", chart.faultAt(2), CableChart.NONE);
        check.due("12: a fault again", chart.fault(1, 0), 3);
        check.due("12: is the youngest", chart.faultAt(2), 8);
    }

    private static void promise13() {
        CableChart chart = Charts.row(3);
        chart.ship(2, 3);
        check.throwsIndex("13: ship below", () -> chart.shipOf(-1, 0));
        check.throwsIndex("13: ship above", () -> chart.shipOf(1, 0));
        check.throwsIndex("13: ship above, what wrong", () -> chart.shipOf(1, 5));
        check.throwsArgument("13: what below", () -> chart.shipOf(0, -1));
        check.throwsArgument("13: what above", () -> chart.shipOf(0, 5));
        shipIs("13: idle", chart, 0, CableChart.IDLE, 20, 0, 0);
        chart.fault(0, 0);
        chart.fault(1, 0);
        chart.send(0, 0, 0);
        chart.pass(2);
        shipIs("13: to which it sails", chart, 0, CableChart.SAILS, 5, 0, 3);
        chart.pass(11);
        chart.send(0, 1, 0);
        chart.pass(12);
        check.due("13: mended", chart.shipOf(0, 4), 2);
        shipIs("13: idle again", chart, 0, CableChart.IDLE, 15, 0, 0);
    }

    private static void promise14() {
        CableChart chart = Charts.row(10);
        chart.trader(9, 0, 5000, 0, 0, 0);
        chart.trader(2, 5, 5000, 0, 0, 0);
        check.throwsIndex("14: trader below", () -> chart.way(-1, 0));
        check.throwsIndex("14: trader above", () -> chart.way(2, 0));
        check.throwsIndex("14: place below", () -> chart.way(0, -1));
        way("14: the longest", chart, 0, 8, 7, 6, 5, 4, 3, 2, 1, 0);
        way("14: a part", chart, 1, 2, 3, 4);
        check.due("14: far behind", chart.way(0, Integer.MAX_VALUE), CableChart.NONE);
        chart.fault(3, 0);
        way("14: cut off", chart, 1);
        check.throwsIndex("14: cut off, place below", () -> chart.way(1, -1));
        sumsOfTheDearestWay();
    }

    private static void sumsOfTheDearestWay() {
        CableChart chart = new CableChart();
        for (int i = 0; i < 10; i++) {
            chart.island(i, i);
        }
        for (int i = 0; i < 9; i++) {
            chart.cable(i + 1, i, 8, 500, 9999);
        }
        chart.trader(0, 9, 4500, 0, 1, 10);
        chart.trader(0, 9, 4499, 0, 1, 10);
        sums("15: the dearest", chart, 0, 89991, 4500, 9);
        chart.pass(1);
        check.due("17: not late", chart.account(0, 3), 0);
        check.due("17: late", chart.account(1, 3), 1);
    }

    private static void promise14Ties() {
        CableChart chart = new CableChart();
        for (int i = 0; i < 5; i++) {
            chart.island(i, i);
        }
        chart.cable(1, 4, 1, 10, 5);
        chart.cable(2, 4, 1, 10, 5);
        chart.cable(0, 2, 1, 10, 5);
        chart.cable(0, 1, 1, 10, 5);
        chart.trader(0, 4, 5000, 0, 0, 0);
        chart.trader(4, 0, 5000, 0, 0, 0);
        way("14: the lowest cable at the first place", chart, 0, 2, 1);
        way("14: the other way round", chart, 1, 0, 3);
        chart.cable(0, 4, 1, 20, 10);
        way("14: fewer cables", chart, 0, 4);
        chart.cable(0, 3, 1, 10, 5);
        chart.cable(3, 4, 1, 9, 5);
        way("14: less delay, more cables", chart, 0, 5, 6);
        chart.cable(4, 0, 1, 500, 9);
        way("14: less price, more delay", chart, 0, 7);
        sums("14: less price", chart, 0, 9, 500, 1);
        laterPlaceDecides();
        forFree();
        nineAgainstOne(0, 500, 1, 1);
        nineAgainstOne(1111, 55, 9999, 496);
        nineAgainstOne(5, 1, 45, 10);
    }

    /** Nine cables that are better by the least bit than one, which has the lowest number. */
    private static void nineAgainstOne(int price, int delay, int priceOfOne, int delayOfOne) {
        CableChart chart = new CableChart();
        for (int i = 0; i < 10; i++) {
            chart.island(i, i);
        }
        chart.cable(0, 9, 1, delayOfOne, priceOfOne);
        for (int i = 0; i < 9; i++) {
            chart.cable(i, i + 1, 1, delay, price);
        }
        chart.trader(0, 9, 5000, 0, 0, 0);
        way("14: nine against one", chart, 0, 1, 2, 3, 4, 5, 6, 7, 8, 9);
        sums("14: nine against one", chart, 0, 9 * price, 9 * delay, 9);
    }

    private static void laterPlaceDecides() {
        CableChart chart = new CableChart();
        for (int i = 0; i < 4; i++) {
            chart.island(i, i);
        }
        chart.cable(1, 2, 1, 1, 1);
        chart.cable(0, 1, 1, 1, 1);
        chart.cable(1, 2, 1, 1, 1);
        chart.cable(0, 1, 1, 1, 1);
        chart.cable(3, 2, 1, 1, 1);
        chart.cable(2, 3, 1, 1, 1);
        chart.trader(0, 3, 5000, 0, 0, 0);
        chart.trader(3, 0, 5000, 0, 0, 0);
        way("14: the lowest at each place", chart, 0, 1, 0, 4);
        way("14: back", chart, 1, 4, 0, 1);
        chart.fault(0, 0);
        way("14: the lowest at a later place", chart, 0, 1, 2, 4);
        chart.fault(4, 0);
        way("14: and at the last one", chart, 0, 1, 2, 5);
    }

    /** Cables for nothing: the delay keeps a way from going in circles. */
    private static void forFree() {
        CableChart chart = new CableChart();
        for (int i = 0; i < 4; i++) {
            chart.island(i, i);
        }
        chart.cable(0, 1, 1, 1, 0);
        chart.cable(1, 2, 1, 1, 0);
        chart.cable(2, 0, 1, 3, 0);
        chart.cable(2, 3, 1, 500, 0);
        chart.cable(0, 3, 1, 1, 1);
        chart.trader(0, 3, 5000, 0, 0, 0);
        way("14: for nothing", chart, 0, 0, 1, 3);
        sums("14: for nothing", chart, 0, 0, 502, 3);
    }

    private static void promise14FailsOver() {
        CableChart chart = Charts.row(3);
        chart.cable(0, 2, 3, 50, 100);
        chart.ship(0, 20);
        chart.trader(0, 2, 30, 3, 2, 100);
        way("14: the cheap one", chart, 0, 0, 1);
        chart.fault(1, 0);
        way("14: fails over", chart, 0, 2);
        chart.fault(2, 2);
        way("14: cut off", chart, 0);
        check.due("14: anew too", chart.sumAnew(0), CableChart.NONE);
        chart.send(0, 1, 0);
        chart.pass(9);
        way("14: is back", chart, 0, 0, 1);
    }

    private static void promise15() {
        CableChart chart = Charts.row(4);
        chart.price(1, 7);
        chart.trader(0, 3, 30, 0, 0, 0);
        check.throwsIndex("15: trader below", () -> chart.sum(-1, 0));
        check.throwsIndex("15: trader above", () -> chart.sum(1, 0));
        check.throwsIndex("15: trader above, what wrong", () -> chart.sum(1, 3));
        check.throwsArgument("15: what below", () -> chart.sum(0, -1));
        check.throwsArgument("15: what above", () -> chart.sum(0, 3));
        sums("15: three cables", chart, 0, 17, 30, 3);
        chart.price(0, 0);
        sums("15: another price", chart, 0, 12, 30, 3);
        chart.fault(2, 0);
        sums("15: cut off", chart, 0, -1, -1, -1);
        check.throwsArgument("15: cut off, what above", () -> chart.sum(0, 3));
    }

    private static void promise16() {
        CableChart chart = Charts.row(10);
        chart.trader(9, 0, 30, 0, 0, 0);
        chart.trader(0, 9, 30, 0, 0, 0);
        check.throwsIndex("16: below", () -> chart.sumAnew(-1));
        check.throwsIndex("16: above", () -> chart.sumAnew(2));
        check.due("16: against the order of cables", chart.sumAnew(0), 45);
        check.due("16: along the order of cables", chart.sumAnew(1), 45);
        chart.cable(9, 0, 1, 500, 46);
        check.due("16: a dearer one", chart.sumAnew(0), 45);
        chart.price(9, 44);
        check.due("16: a cheaper one", chart.sumAnew(0), 44);
        chart.price(9, 0);
        check.due("16: for nothing", chart.sumAnew(0), 0);
        chart.fault(9, 0);
        check.due("16: with a fault", chart.sumAnew(0), 45);
        chart.fault(4, 0);
        check.due("16: cut off", chart.sumAnew(0), -1);
    }

    private static void promise17() {
        CableChart chart = Charts.row(3);
        chart.trader(0, 2, 20, 3, 2, 100);
        check.throwsIndex("17: trader below", () -> chart.account(-1, 0));
        check.throwsIndex("17: trader above", () -> chart.account(1, 0));
        check.throwsIndex("17: trader above, what wrong", () -> chart.account(1, 4));
        check.throwsArgument("17: what below", () -> chart.account(0, -1));
        check.throwsArgument("17: what above", () -> chart.account(0, 4));
        account("17: new", chart, 0, 0, 0, 0, 0);
        chart.pass(2);
        account("17: pays", chart, 0, 20, 0, 0, 0);
        chart.price(0, 6);
        chart.pass(1);
        account("17: pays as it is then", chart, 0, 31, 0, 0, 0);
    }

    private static void account(String what, CableChart chart, int trader, long paid, long credits, long cut, long late) {
        check.due(what + ": paid", chart.account(trader, 0), paid);
        check.due(what + ": credits", chart.account(trader, 1), credits);
        check.due(what + ": hours cut off", chart.account(trader, 2), cut);
        check.due(what + ": hours late", chart.account(trader, 3), late);
    }

    private static void promise17LateAndCut() {
        CableChart chart = Charts.row(3);
        chart.cable(0, 2, 1, 21, 50);
        chart.trader(0, 2, 20, 3, 2, 100);
        chart.trader(2, 0, 21, 30, 20, 1000);
        chart.pass(1);
        account("17: in time", chart, 0, 10, 0, 0, 0);
        chart.fault(0, 0);
        chart.pass(2);
        account("17: late, and pays", chart, 0, 110, 4, 0, 2);
        account("17: the most delay is not late", chart, 1, 110, 0, 0, 0);
        chart.fault(2, 0);
        chart.pass(4);
        account("17: cut off, and pays not", chart, 0, 110, 16, 4, 2);
        account("17: cut off", chart, 1, 110, 120, 4, 0);
    }

    private static void promise17MostCredit() {
        CableChart chart = Charts.row(3);
        chart.trader(0, 2, 1, 3, 2, 9);
        chart.trader(0, 2, 1, 9999, 9999, 1000000);
        chart.trader(0, 2, 1, 9999, 9999, 0);
        chart.pass(2);
        account("17: late", chart, 0, 20, 4, 0, 2);
        chart.fault(1, 0);
        chart.pass(1);
        account("17: both together", chart, 0, 20, 7, 1, 2);
        chart.pass(1);
        account("17: at most", chart, 0, 20, 9, 2, 2);
        chart.pass(96);
        account("17: hours go on", chart, 0, 20, 9, 98, 2);
        account("17: ahead of the most", chart, 1, 20, 999900, 98, 2);
        account("17: no credit", chart, 2, 20, 0, 98, 2);
        chart.pass(1);
        account("17: the most", chart, 1, 20, 1000000, 99, 2);
        chart.pass(500);
        account("17: the most still", chart, 1, 20, 1000000, 599, 2);
    }

    private static void promise17ManyPrices() {
        CableChart chart = new CableChart();
        for (int i = 0; i < 10; i++) {
            chart.island(i, i);
        }
        for (int i = 0; i < 9; i++) {
            chart.cable(i, i + 1, 1, 500, 9999);
        }
        chart.trader(0, 9, 5000, 0, 0, 0);
        for (int i = 0; i < 480; i++) {
            chart.pass(500);
        }
        check.due("17: more than an int", chart.account(0, 0), 240000L * 89991L);
    }

    private static void promise18() {
        CableChart chart = Charts.row(10);
        chart.ship(0, 20);
        check.throwsIndex("18: below", () -> chart.reach(-1));
        check.throwsIndex("18: above", () -> chart.reach(10));
        check.due("18: all", chart.reach(0), 1023);
        check.due("18: all from the end", chart.reach(9), 1023);
        chart.fault(4, 0);
        check.due("18: the lower ones", chart.reach(0), 31);
        check.due("18: the higher ones", chart.reach(9), 992);
        chart.fault(0, 0);
        check.due("18: itself alone", chart.reach(0), 1);
        check.due("18: without it", chart.reach(4), 30);
        chart.send(0, 0, 0);
        chart.pass(9);
        check.due("18: mended", chart.reach(0), 31);
        CableChart small = new CableChart();
        small.island(0, 0);
        check.throwsIndex("18: not told yet", () -> small.reach(1));
        small.island(0, 0);
        check.due("18: no cable", small.reach(1), 2);
        backwardRow();
    }

    private static void backwardRow() {
        CableChart chart = new CableChart();
        for (int i = 0; i < 10; i++) {
            chart.island(i, i);
        }
        for (int i = 8; i >= 0; i--) {
            chart.cable(i + 1, i, 1, 1, 1);
        }
        check.due("18: against the order of cables", chart.reach(0), 1023);
        check.due("18: along the order of cables", chart.reach(9), 1023);
    }
}
