/**
 * A test for each sentence of the document's promises 1 to 18 that names a boundary: the least and
 * the most of an argument, none at all, not so many, a call that is refused. Each is named by its
 * promise and the sentence.
 */
public final class PromisesBoundariesTest {
    private static final Check check = new Check("PromisesBoundariesTest");
    private static final int LEAST = Integer.MIN_VALUE;
    private static final int MOST = Integer.MAX_VALUE;

    public static void main(String[] args) {
        promises1To4();
        promises5To8();
        promises9And10();
        promises11To14();
        promises15To18();
        check.end();
    }

    private static void promises1To4() {
        check.sentence("1: Opens the chart at the hour 0, empty", PromisesBoundariesTest::empty);
        check.sentence("2: x: 0 to 99", () -> coordinate(true));
        check.sentence("2: y: 0 to 99", () -> coordinate(false));
        check.sentence("2: Returns its number; IllegalStateException as told above", PromisesBoundariesTest::islands);
        check.sentence("3: island: an island: the first one; other: another one", PromisesBoundariesTest::cableEnds);
        check.sentence("3: spans: 1 to 8", PromisesBoundariesTest::cableSpans);
        check.sentence("3: delay: 1 to 500", PromisesBoundariesTest::cableDelay);
        check.sentence("3: price: 0 to 9999", PromisesBoundariesTest::cablePrice);
        check.sentence("3: Returns its number; IllegalStateException as told above", PromisesBoundariesTest::cables);
        check.sentence("4: cable: a cable", PromisesBoundariesTest::pricedCable);
        check.sentence("4: price: 0 to 9999", PromisesBoundariesTest::setPrice);
        check.sentence("4: Returns what it was", PromisesBoundariesTest::whatThePriceWas);
    }

    private static void promises5To8() {
        check.sentence("5: cable: a cable; span: a span of it", PromisesBoundariesTest::faultySpan);
        check.sentence("5: Returns how many faults there are, of all cables", PromisesBoundariesTest::howManyFaults);
        check.sentence("5: IllegalStateException if it has one", PromisesBoundariesTest::hasAFault);
        check.sentence("6: island: an island, at which it is IDLE", PromisesBoundariesTest::shipsIsland);
        check.sentence("6: speed: 1 to 20", PromisesBoundariesTest::shipsSpeed);
        check.sentence("6: Returns its number; IllegalStateException as told above", PromisesBoundariesTest::ships);
        check.sentence("7: ship: a ship; cable: a cable; span: a span of it", PromisesBoundariesTest::sentTo);
        check.sentence("7: Returns how many hours it SAILS", PromisesBoundariesTest::hoursToAFault);
        check.sentence("7: IllegalStateException if it is not IDLE", PromisesBoundariesTest::sentWhileNotIdle);
        check.sentence("7: or the span has no fault", PromisesBoundariesTest::sentToNoFault);
        check.sentence("8: ship: a ship; island: an island", PromisesBoundariesTest::sentHome);
        check.sentence("8: Returns how many hours it SAILS", PromisesBoundariesTest::hoursHome);
        check.sentence("8: IllegalStateException if it is not IDLE", PromisesBoundariesTest::homeWhileNotIdle);
    }

    private static void promises9And10() {
        check.sentence("9: from: an island; to: another one", PromisesBoundariesTest::traderEnds);
        check.sentence("9: delay: 1 to 5000: the most", PromisesBoundariesTest::traderDelay);
        check.sentence("9: cut: 0 to 9999", PromisesBoundariesTest::traderCut);
        check.sentence("9: late: 0 to 9999", PromisesBoundariesTest::traderLate);
        check.sentence("9: most: 0 to 1000000: of all credits", PromisesBoundariesTest::traderMost);
        check.sentence("9: Returns the number; IllegalStateException as told above", PromisesBoundariesTest::traders);
        check.sentence("10: hours: 1 to 500", PromisesBoundariesTest::hours);
        check.sentence("10: Lets hours pass, one by one", PromisesBoundariesTest::oneByOne);
        check.sentence("10: Returns the hour then", PromisesBoundariesTest::theHourThen);
    }

    private static void promises11To14() {
        check.sentence("11: cable: a cable", PromisesBoundariesTest::askedCable);
        check.sentence("11: Returns true if it does", PromisesBoundariesTest::doesWork);
        check.sentence("12: rank: 0 for the oldest one", PromisesBoundariesTest::oldest);
        check.sentence("12: 8 times the cable, and the span, together", PromisesBoundariesTest::cableAndSpan);
        check.sentence("12: -1 if there are not so many", PromisesBoundariesTest::notSoManyFaults);
        check.sentence("12: IndexOutOfBoundsException if rank is below 0", PromisesBoundariesTest::rankBelow0);
        check.sentence("13: ship: a ship", PromisesBoundariesTest::askedShip);
        check.sentence("13: what: 0 IDLE to TESTS", PromisesBoundariesTest::whatOfAShip);
        check.sentence("13: 1 and 2 the place at which it is, or to which it SAILS",
                PromisesBoundariesTest::placeOfAShip);
        check.sentence("13: 3 the hours that it has to go, 0 if it is IDLE", PromisesBoundariesTest::hoursOfAShip);
        check.sentence("13: 4 how many faults it has mended", PromisesBoundariesTest::mendedByAShip);
        check.sentence("14: trader: a trader", PromisesBoundariesTest::askedTrader);
        check.sentence("14: place: 0 for the first one", PromisesBoundariesTest::firstOfAWay);
        check.sentence("14: Returns the cable; -1 if there are not so many", PromisesBoundariesTest::behindAWay);
        check.sentence("14: IndexOutOfBoundsException if place is below 0", PromisesBoundariesTest::placeBelow0);
    }

    private static void promises15To18() {
        check.sentence("15: trader: a trader", PromisesBoundariesTest::summedTrader);
        check.sentence("15: what: 0 prices, 1 delays, 2 how many cables", PromisesBoundariesTest::whatOfASum);
        check.sentence("15: Returns the sum; -1 if the trader is cut off", PromisesBoundariesTest::sumCutOff);
        check.sentence("16: trader: a trader", PromisesBoundariesTest::summedAnew);
        check.sentence("16: the sum of prices, found by rounds over all cables", PromisesBoundariesTest::byRounds);
        check.sentence("16: Returns the sum; -1 if the trader is cut off", PromisesBoundariesTest::anewCutOff);
        check.sentence("17: trader: a trader", PromisesBoundariesTest::accountOfATrader);
        check.sentence("17: what: 0 all prices paid, 1 all credits, 2 hours cut off, 3 hours that were late",
                PromisesBoundariesTest::whatOfAnAccount);
        check.sentence("17: long account", PromisesBoundariesTest::longAccount);
        check.sentence("18: island: an island", PromisesBoundariesTest::reachedFromNone);
        check.sentence("18: Returns the islands, itself with them, as a set", PromisesBoundariesTest::itselfWithThem);
        check.sentence("18: reached from one by cables that work", PromisesBoundariesTest::reachedByCablesThatWork);
    }

    // 1 to 4

    private static void empty() {
        CableChart chart = new CableChart();
        check.throwsIndex("no island, to reach from", () -> chart.reach(0));
        check.throwsIndex("no island, for a cable", () -> chart.cable(0, 1, 1, 1, 1));
        check.throwsIndex("no island, for a ship", () -> chart.ship(0, 1));
        check.throwsIndex("no island, for a trader", () -> chart.trader(0, 1, 1, 1, 1, 1));
        check.throwsIndex("no cable, to ask", () -> chart.works(0) ? 1 : 0);
        check.throwsIndex("no cable, for a price", () -> chart.price(0, 1));
        check.throwsIndex("no cable, for a fault", () -> chart.fault(0, 0));
        check.throwsIndex("no ship", () -> chart.shipOf(0, 0));
        check.throwsIndex("no ship, to send", () -> chart.send(0, 0, 0));
        check.throwsIndex("no ship, to send home", () -> chart.home(0, 0));
        check.throwsIndex("no trader", () -> chart.way(0, 0));
        check.due("no fault", chart.faultAt(0), CableChart.NONE);
        check.due("an hour passes", chart.pass(500), 500);
        CableChart other = new CableChart();
        check.due("another one at the hour 0", other.pass(1), 1);
        other.island(0, 0);
        check.throwsIndex("no island by another one's", () -> chart.reach(0));
    }

    private static void coordinate(boolean ofX) {
        CableChart chart = new CableChart();
        for (int wrong : new int[] {-1, 100, LEAST, MOST}) {
            check.throwsArgument(wrong + "", () -> ofX ? chart.island(wrong, 50) : chart.island(50, wrong));
        }
        for (int right : new int[] {0, 1, 98, 99}) {
            int island = ofX ? chart.island(right, 50) : chart.island(50, right);
            int ship = chart.ship(island, 1);
            check.due(right + "", chart.shipOf(ship, ofX ? 1 : 2), right);
            check.due(right + ", the other one", chart.shipOf(ship, ofX ? 2 : 1), 50);
        }
    }

    private static void islands() {
        CableChart chart = new CableChart();
        for (int i = 0; i < 10; i++) {
            check.due("number", chart.island(9, 9), i);
        }
        check.throwsState("the eleventh", () -> chart.island(9, 9));
        check.throwsState("still", () -> chart.island(0, 0));
    }

    private static void cableEnds() {
        CableChart chart = Charts.at(0, 0, 9, 9, 18, 18);
        for (int none : new int[] {-1, 3, LEAST, MOST}) {
            check.throwsIndex("island " + none, () -> chart.cable(none, 0, 1, 1, 1));
            check.throwsIndex("other " + none, () -> chart.cable(0, none, 1, 1, 1));
            check.throwsIndex("both " + none, () -> chart.cable(none, none, 1, 1, 1));
        }
        check.throwsArgument("the first island twice", () -> chart.cable(0, 0, 1, 1, 1));
        check.throwsArgument("the last island twice", () -> chart.cable(2, 2, 1, 1, 1));
        check.due("the first and the last", chart.cable(0, 2, 1, 1, 1), 0);
        check.due("reached", chart.reach(0), 5);
        check.due("the last and the first", chart.cable(2, 0, 1, 1, 1), 1);
    }

    private static void cableSpans() {
        CableChart chart = Charts.at(0, 0, 9, 9);
        for (int wrong : new int[] {-1, 0, 9, LEAST, MOST}) {
            check.throwsArgument(wrong + "", () -> chart.cable(0, 1, wrong, 1, 1));
        }
        check.due("1", chart.cable(0, 1, 1, 1, 1), 0);
        check.due("8", chart.cable(0, 1, 8, 1, 1), 1);
        check.throwsIndex("behind the only one", () -> chart.fault(0, 1));
        check.due("the last of 8", chart.fault(1, 7), 1);
    }

    private static void cableDelay() {
        CableChart chart = Charts.at(0, 0, 9, 9);
        for (int wrong : new int[] {-1, 0, 501, LEAST, MOST}) {
            check.throwsArgument(wrong + "", () -> chart.cable(0, 1, 1, wrong, 1));
        }
        chart.trader(0, 1, 1, 0, 0, 0);
        chart.cable(0, 1, 1, 500, 1);
        check.due("500", chart.sum(0, 1), 500);
        chart.cable(0, 1, 1, 1, 1);
        check.due("1", chart.sum(0, 1), 1);
    }

    private static void cablePrice() {
        CableChart chart = Charts.at(0, 0, 9, 9);
        for (int wrong : new int[] {-1, 10000, LEAST, MOST}) {
            check.throwsArgument(wrong + "", () -> chart.cable(0, 1, 1, 1, wrong));
        }
        chart.trader(0, 1, 1, 0, 0, 0);
        chart.cable(0, 1, 1, 1, 9999);
        check.due("9999", chart.sum(0, 0), 9999);
        chart.cable(0, 1, 1, 1, 0);
        check.due("0", chart.sum(0, 0), 0);
    }

    private static void cables() {
        CableChart chart = Charts.at(0, 0, 9, 9);
        for (int i = 0; i < 16; i++) {
            check.due("number", chart.cable(1, 0, 8, 500, 9999), i);
        }
        check.throwsState("the seventeenth", () -> chart.cable(1, 0, 8, 500, 9999));
        check.throwsState("still", () -> chart.cable(0, 1, 1, 1, 0));
    }

    private static void pricedCable() {
        CableChart chart = Charts.row(3);
        for (int none : new int[] {-1, 2, LEAST, MOST}) {
            check.throwsIndex("cable " + none, () -> chart.price(none, 1));
            check.throwsIndex("cable " + none + ", price 10000", () -> chart.price(none, 10000));
        }
        check.due("the last one", chart.price(1, 6), 5);
        check.due("the first one", chart.price(0, 7), 5);
        check.due("the last one's is its own", chart.price(1, 5), 6);
    }

    private static void setPrice() {
        CableChart chart = Charts.row(2);
        chart.trader(0, 1, 10, 0, 0, 0);
        for (int wrong : new int[] {-1, 10000, LEAST, MOST}) {
            check.throwsArgument(wrong + "", () -> chart.price(0, wrong));
        }
        check.due("none of them is set", Charts.sums(chart, 0), "5 10 1, 5");
        chart.price(0, 9999);
        check.due("9999", Charts.sums(chart, 0), "9999 10 1, 9999");
        chart.price(0, 0);
        check.due("0", Charts.sums(chart, 0), "0 10 1, 0");
    }

    private static void whatThePriceWas() {
        CableChart chart = Charts.row(2);
        check.due("as it was laid", chart.price(0, 0), 5);
        check.due("0", chart.price(0, 9999), 0);
        check.due("9999", chart.price(0, 9999), 9999);
        check.due("the same again", chart.price(0, 1), 9999);
        chart.fault(0, 0);
        check.due("of a cable that does not work", chart.price(0, 2), 1);
    }

    // 5 to 8

    private static void faultySpan() {
        CableChart chart = Charts.row(2);
        chart.cable(0, 1, 8, 1, 1);
        for (int none : new int[] {-1, 2, LEAST, MOST}) {
            check.throwsIndex("cable " + none, () -> chart.fault(none, 0));
        }
        for (int none : new int[] {-1, 8, 32, LEAST, MOST}) {
            check.throwsIndex("span " + none, () -> chart.fault(1, none));
        }
        check.throwsIndex("a span of another cable", () -> chart.fault(0, 7));
        check.due("none of them has a fault", chart.fault(1, 0), 1);
        check.due("the last span of the last cable", chart.fault(1, 7), 2);
        check.due("the only span of the first cable", chart.fault(0, 0), 3);
    }

    private static void howManyFaults() {
        CableChart chart = Charts.at(0, 0, 0, 0);
        chart.ship(0, 1);
        for (int cable = 0; cable < 16; cable++) {
            chart.cable(0, 1, 8, 1, 1);
        }
        for (int i = 0; i < 128; i++) {
            check.due("one more", chart.fault(i % 16, i / 16), i + 1);
        }
        chart.send(0, 9, 3);
        chart.pass(8);
        check.due("as many again, behind a mended one", chart.fault(9, 3), 128);
    }

    private static void hasAFault() {
        CableChart chart = Charts.at(0, 0, 0, 0);
        chart.cable(0, 1, 2, 1, 1);
        chart.ship(0, 1);
        chart.fault(0, 1);
        check.throwsState("at once", () -> chart.fault(0, 1));
        chart.send(0, 0, 1);
        check.throwsState("while a ship splices", () -> chart.fault(0, 1));
        chart.pass(7);
        check.throwsState("in the last hour of its test", () -> chart.fault(0, 1));
        check.due("the other span has none", chart.fault(0, 0), 2);
        chart.pass(1);
        check.due("it is mended", chart.fault(0, 1), 2);
    }

    private static void shipsIsland() {
        CableChart chart = Charts.at(0, 99, 99, 0);
        for (int none : new int[] {-1, 2, LEAST, MOST}) {
            check.throwsIndex("island " + none, () -> chart.ship(none, 1));
            check.throwsIndex("island " + none + ", speed 0", () -> chart.ship(none, 0));
        }
        chart.ship(0, 1);
        chart.ship(1, 20);
        check.due("at the first one", Charts.ship(chart, 0), "0 0 99 0 0");
        check.due("at the last one", Charts.ship(chart, 1), "0 99 0 0 0");
    }

    private static void shipsSpeed() {
        CableChart chart = Charts.at(0, 0, 99, 99);
        for (int wrong : new int[] {-1, 0, 21, LEAST, MOST}) {
            check.throwsArgument(wrong + "", () -> chart.ship(0, wrong));
        }
        chart.ship(0, 1);
        chart.ship(0, 20);
        check.due("1", chart.home(0, 1), 198);
        check.due("20", chart.home(1, 1), 10);
    }

    private static void ships() {
        CableChart chart = Charts.row(2);
        for (int i = 0; i < 4; i++) {
            check.due("number", chart.ship(1, 20), i);
        }
        check.throwsState("the fifth", () -> chart.ship(1, 20));
        chart.home(0, 0);
        check.throwsState("still, with one at sea", () -> chart.ship(0, 1));
    }

    private static void sentTo() {
        CableChart chart = Charts.row(2);
        chart.cable(0, 1, 8, 1, 1);
        chart.ship(0, 1);
        chart.ship(0, 1);
        chart.fault(1, 7);
        chart.fault(1, 0);
        for (int none : new int[] {-1, 2, LEAST, MOST}) {
            check.throwsIndex("ship " + none, () -> chart.send(none, 1, 0));
            check.throwsIndex("cable " + none, () -> chart.send(0, none, 0));
        }
        for (int none : new int[] {-1, 8, 32, LEAST, MOST}) {
            check.throwsIndex("span " + none, () -> chart.send(0, 1, none));
        }
        check.due("none of them sails", Charts.ship(chart, 0), "0 0 0 0 0");
        check.due("to the first span", chart.send(0, 1, 0), 0);
        check.due("to the last span", chart.send(1, 1, 7), 9);
    }

    private static void hoursToAFault() {
        CableChart chart = Charts.at(0, 0, 99, 99, 6, 6);
        chart.cable(0, 1, 8, 1, 1);
        chart.fault(0, 0);
        chart.fault(0, 7);
        chart.ship(2, 1);
        chart.ship(0, 12);
        chart.ship(0, 11);
        chart.ship(0, 1);
        check.due("none: it is there", chart.send(0, 0, 0), 0);
        check.due("as far as it goes in an hour", chart.send(1, 0, 0), 1);
        check.due("one farther", chart.send(2, 0, 0), 2);
        check.due("far", chart.send(3, 0, 7), 184);
    }

    private static void sentWhileNotIdle() {
        CableChart chart = Charts.row(2);
        chart.cable(0, 1, 1, 1, 1);
        chart.ship(0, 5);
        chart.fault(0, 0);
        chart.fault(1, 0);
        chart.send(0, 0, 0);
        for (int hour = 0; hour < 9; hour++) {
            check.throwsState("hour " + hour, () -> chart.send(0, 1, 0));
            chart.pass(1);
        }
        check.due("idle again", chart.send(0, 1, 0), 0);
    }

    private static void sentToNoFault() {
        CableChart chart = Charts.row(2);
        chart.cable(0, 1, 8, 1, 1);
        chart.ship(0, 20);
        check.throwsState("none at all", () -> chart.send(0, 0, 0));
        chart.fault(1, 6);
        check.throwsState("beside it", () -> chart.send(0, 1, 5));
        check.throwsState("beside it, the last", () -> chart.send(0, 1, 7));
        check.throwsState("of another cable", () -> chart.send(0, 0, 0));
        check.due("at it", chart.send(0, 1, 6), 1);
        chart.pass(9);
        check.throwsState("mended", () -> chart.send(0, 1, 6));
    }

    private static void sentHome() {
        CableChart chart = Charts.row(3);
        chart.ship(0, 20);
        chart.ship(0, 20);
        for (int none : new int[] {-1, 2, LEAST, MOST}) {
            check.throwsIndex("ship " + none, () -> chart.home(none, 0));
        }
        for (int none : new int[] {-1, 3, LEAST, MOST}) {
            check.throwsIndex("island " + none, () -> chart.home(0, none));
        }
        check.due("to the first", chart.home(0, 0), 0);
        check.due("to the last", chart.home(1, 2), 1);
    }

    private static void hoursHome() {
        CableChart chart = Charts.at(0, 0, 12, 0, 0, 13);
        chart.ship(0, 12);
        chart.ship(0, 12);
        chart.ship(0, 1);
        check.due("none: it is there", chart.home(0, 0), 0);
        check.due("and is idle", Charts.ship(chart, 0), "0 0 0 0 0");
        check.due("as far as it goes in an hour", chart.home(0, 1), 1);
        check.due("one farther", chart.home(1, 2), 2);
        check.due("the slowest", chart.home(2, 2), 13);
    }

    private static void homeWhileNotIdle() {
        CableChart chart = Charts.row(2);
        chart.ship(0, 5);
        chart.fault(0, 0);
        chart.send(0, 0, 0);
        for (int hour = 0; hour < 9; hour++) {
            check.throwsState("hour " + hour, () -> chart.home(0, 0));
            chart.pass(1);
        }
        check.due("idle again", chart.home(0, 0), 1);
        check.throwsState("sails home", () -> chart.home(0, 0));
        chart.pass(1);
        check.due("at home", chart.home(0, 0), 0);
    }

    // 9 and 10

    private static void traderEnds() {
        CableChart chart = Charts.row(3);
        for (int none : new int[] {-1, 3, LEAST, MOST}) {
            check.throwsIndex("from " + none, () -> chart.trader(none, 0, 1, 1, 1, 1));
            check.throwsIndex("to " + none, () -> chart.trader(0, none, 1, 1, 1, 1));
            check.throwsIndex("both " + none, () -> chart.trader(none, none, 1, 1, 1, 1));
        }
        check.throwsArgument("the first island twice", () -> chart.trader(0, 0, 1, 1, 1, 1));
        check.throwsArgument("the last island twice", () -> chart.trader(2, 2, 1, 1, 1, 1));
        check.due("the first and the last", chart.trader(0, 2, 1, 1, 1, 1), 0);
        check.due("the last and the first", chart.trader(2, 0, 1, 1, 1, 1), 1);
        check.due("their ways", Charts.way(chart, 0) + ", " + Charts.way(chart, 1), "0 1, 1 0");
    }

    private static void traderDelay() {
        CableChart chart = Charts.at(0, 0, 9, 9, 18, 18);
        for (int wrong : new int[] {-1, 0, 5001, LEAST, MOST}) {
            check.throwsArgument(wrong + "", () -> chart.trader(0, 1, wrong, 1, 1, 1));
        }
        chart.cable(0, 1, 1, 1, 1);
        chart.cable(1, 2, 1, 2, 1);
        chart.trader(0, 1, 1, 1, 1, 1);
        chart.trader(1, 2, 1, 1, 1, 1);
        chart.trader(0, 2, 5000, 1, 1, 1);
        chart.pass(1);
        check.due("1, not late", Charts.account(chart, 0), "1 0 0 0");
        check.due("1, late", Charts.account(chart, 1), "1 1 0 1");
        check.due("5000", Charts.account(chart, 2), "2 0 0 0");
    }

    private static void traderCut() {
        CableChart chart = Charts.at(0, 0, 9, 9);
        for (int wrong : new int[] {-1, 10000, LEAST, MOST}) {
            check.throwsArgument(wrong + "", () -> chart.trader(0, 1, 1, wrong, 1, 1));
        }
        chart.trader(0, 1, 1, 0, 5, 1000000);
        chart.trader(0, 1, 1, 9999, 5, 1000000);
        chart.pass(2);
        check.due("0", Charts.account(chart, 0), "0 0 2 0");
        check.due("9999", Charts.account(chart, 1), "0 19998 2 0");
    }

    private static void traderLate() {
        CableChart chart = Charts.row(2);
        for (int wrong : new int[] {-1, 10000, LEAST, MOST}) {
            check.throwsArgument(wrong + "", () -> chart.trader(0, 1, 1, 1, wrong, 1));
        }
        chart.trader(0, 1, 9, 5, 0, 1000000);
        chart.trader(0, 1, 9, 5, 9999, 1000000);
        chart.pass(2);
        check.due("0", Charts.account(chart, 0), "10 0 0 2");
        check.due("9999", Charts.account(chart, 1), "10 19998 0 2");
    }

    private static void traderMost() {
        CableChart chart = Charts.at(0, 0, 9, 9);
        for (int wrong : new int[] {-1, 1000001, LEAST, MOST}) {
            check.throwsArgument(wrong + "", () -> chart.trader(0, 1, 1, 1, 1, wrong));
        }
        chart.trader(0, 1, 1, 9999, 0, 0);
        chart.trader(0, 1, 1, 9999, 0, 1);
        chart.trader(0, 1, 1, 9999, 0, 1000000);
        chart.pass(1);
        check.due("0", Charts.account(chart, 0), "0 0 1 0");
        check.due("1", Charts.account(chart, 1), "0 1 1 0");
        check.due("1000000, ahead of it", Charts.account(chart, 2), "0 9999 1 0");
        chart.pass(100);
        check.due("1000000", Charts.account(chart, 2), "0 1000000 101 0");
    }

    private static void traders() {
        CableChart chart = Charts.row(2);
        for (int i = 0; i < 12; i++) {
            check.due("number", chart.trader(1, 0, 5000, 9999, 9999, 1000000), i);
        }
        check.throwsState("the thirteenth", () -> chart.trader(1, 0, 5000, 9999, 9999, 1000000));
        check.throwsState("still", () -> chart.trader(0, 1, 1, 0, 0, 0));
    }

    private static void hours() {
        CableChart chart = Charts.row(2);
        chart.trader(0, 1, 10, 0, 0, 0);
        for (int wrong : new int[] {-1, 0, 501, LEAST, MOST}) {
            check.throwsArgument(wrong + "", () -> chart.pass(wrong));
        }
        check.due("none of them passed", chart.pass(1), 1);
        check.due("1 is paid", chart.account(0, 0), 5);
        check.due("500", chart.pass(500), 501);
        check.due("500 are paid", chart.account(0, 0), 2505);
    }

    private static void oneByOne() {
        CableChart together = Charts.full();
        CableChart single = Charts.full();
        together.send(0, 3, 0);
        single.send(0, 3, 0);
        check.due("the hour", together.pass(100), 103);
        for (int i = 1; i <= 100; i++) {
            check.due("the hour", single.pass(1), 3 + i);
        }
        check.due("what comes of it", Charts.state(together), Charts.state(single));
    }

    private static void theHourThen() {
        CableChart chart = Charts.busy();
        check.due("behind the 3 that it had", chart.pass(1), 4);
        check.due("many", chart.pass(500), 504);
        check.throwsArgument("none", () -> chart.pass(0));
        check.due("one more", chart.pass(1), 505);
    }

    // 11 to 14

    private static void askedCable() {
        CableChart chart = Charts.row(3);
        for (int none : new int[] {-1, 2, LEAST, MOST}) {
            check.throwsIndex("cable " + none, () -> chart.works(none) ? 1 : 0);
        }
        check.due("the first", chart.works(0), true);
        check.due("the last", chart.works(1), true);
    }

    private static void doesWork() {
        CableChart chart = Charts.at(0, 0, 0, 0);
        chart.cable(0, 1, 8, 1, 1);
        chart.ship(0, 1);
        for (int span = 0; span < 8; span++) {
            chart.fault(0, span);
            check.due(span + 1 + " faults", chart.works(0), false);
        }
        for (int span = 0; span < 8; span++) {
            check.due(8 - span + " faults are left", chart.works(0), false);
            chart.send(0, 0, span);
            chart.pass(8);
        }
        check.due("none is left", chart.works(0), true);
    }

    private static void oldest() {
        CableChart chart = Charts.at(0, 0, 0, 0);
        chart.cable(0, 1, 8, 1, 1);
        chart.ship(0, 1);
        for (int span = 7; span >= 4; span--) {
            chart.fault(0, span);
        }
        check.due("the oldest", chart.faultAt(0), 7);
        check.due("the youngest", chart.faultAt(3), 4);
        mend(chart, 7);
        check.due("without the oldest", Charts.faults(chart), "6 5 4");
        chart.fault(0, 7);
        check.due("it comes again as the youngest", Charts.faults(chart), "6 5 4 7");
        mend(chart, 5);
        check.due("without one of the middle", Charts.faults(chart), "6 4 7");
        mend(chart, 7);
        check.due("without the youngest", Charts.faults(chart), "6 4");
        mend(chart, 6);
        mend(chart, 4);
        check.due("without any", Charts.faults(chart), "none");
    }

    private static void mend(CableChart chart, int span) {
        chart.send(0, 0, span);
        chart.pass(8);
    }

    private static void cableAndSpan() {
        CableChart chart = Charts.at(0, 0, 9, 9);
        for (int cable = 0; cable < 16; cable++) {
            chart.cable(0, 1, 8, 1, 1);
        }
        chart.fault(15, 7);
        chart.fault(0, 0);
        chart.fault(15, 0);
        chart.fault(0, 7);
        chart.fault(1, 0);
        check.due("the edges", Charts.faults(chart), "127 0 120 7 8");
    }

    private static void notSoManyFaults() {
        CableChart chart = Charts.row(3);
        check.due("no fault", chart.faultAt(0), -1);
        check.due("no fault, far", chart.faultAt(MOST), -1);
        chart.fault(1, 0);
        check.due("one", chart.faultAt(0), 8);
        check.due("behind one", chart.faultAt(1), -1);
        check.due("far behind one", chart.faultAt(MOST), -1);
        check.due("behind all that there can be", chart.faultAt(128), -1);
    }

    private static void rankBelow0() {
        CableChart chart = Charts.row(2);
        check.throwsIndex("-1, no fault", () -> chart.faultAt(-1));
        check.throwsIndex("the least, no fault", () -> chart.faultAt(LEAST));
        chart.fault(0, 0);
        check.throwsIndex("-1", () -> chart.faultAt(-1));
        check.throwsIndex("the least", () -> chart.faultAt(LEAST));
    }

    private static void askedShip() {
        CableChart chart = Charts.at(3, 4);
        chart.ship(0, 1);
        chart.ship(0, 1);
        for (int none : new int[] {-1, 2, LEAST, MOST}) {
            check.throwsIndex("ship " + none, () -> chart.shipOf(none, 0));
            check.throwsIndex("ship " + none + ", what 5", () -> chart.shipOf(none, 5));
        }
        check.due("the last one", Charts.ship(chart, 1), "0 3 4 0 0");
    }

    private static void whatOfAShip() {
        CableChart chart = Charts.row(2);
        chart.ship(1, 5);
        for (int wrong : new int[] {-1, 5, LEAST, MOST}) {
            check.throwsArgument("what " + wrong, () -> chart.shipOf(0, wrong));
        }
        chart.fault(0, 0);
        check.due("IDLE", chart.shipOf(0, 0), CableChart.IDLE);
        chart.send(0, 0, 0);
        check.due("SAILS", chart.shipOf(0, 0), CableChart.SAILS);
        chart.pass(1);
        check.due("SPLICES", chart.shipOf(0, 0), CableChart.SPLICES);
        chart.pass(6);
        check.due("TESTS", chart.shipOf(0, 0), CableChart.TESTS);
        chart.pass(2);
        check.due("IDLE again", chart.shipOf(0, 0), CableChart.IDLE);
    }

    private static void placeOfAShip() {
        CableChart chart = Charts.at(2, 97, 90, 9);
        chart.cable(0, 1, 1, 1, 1);
        chart.ship(0, 20);
        chart.fault(0, 0);
        check.due("at its island", Charts.ship(chart, 0), "0 2 97 0 0");
        chart.send(0, 0, 0);
        check.due("to which it sails", Charts.ship(chart, 0), "1 46 53 5 0");
        chart.pass(4);
        check.due("an hour away from it", Charts.ship(chart, 0), "1 46 53 1 0");
        chart.pass(9);
        check.due("at which it is", Charts.ship(chart, 0), "0 46 53 0 1");
        chart.home(0, 1);
        check.due("to which it sails home", Charts.ship(chart, 0), "1 90 9 5 1");
        chart.pass(5);
        check.due("at which it is then", Charts.ship(chart, 0), "0 90 9 0 1");
    }

    private static void hoursOfAShip() {
        CableChart chart = Charts.row(2);
        chart.ship(0, 5);
        chart.fault(0, 0);
        chart.send(0, 0, 0);
        int[] toGo = {1, 6, 5, 4, 3, 2, 1, 2, 1, 0, 0};
        for (int hour = 0; hour < toGo.length; hour++) {
            check.due("hour " + hour, chart.shipOf(0, 3), toGo[hour]);
            chart.pass(1);
        }
        chart.home(0, 1);
        chart.pass(1);
        check.due("home", chart.shipOf(0, 3), 0);
    }

    private static void mendedByAShip() {
        CableChart chart = Charts.at(0, 0, 0, 0);
        chart.cable(0, 1, 8, 1, 1);
        chart.ship(0, 1);
        chart.ship(0, 1);
        check.due("none", chart.shipOf(0, 4), 0);
        for (int i = 1; i <= 60; i++) {
            chart.fault(0, i % 8);
            chart.send(0, 0, i % 8);
            chart.send(1, 0, i % 8);
            chart.pass(8);
            check.due("one more", chart.shipOf(0, 4), i);
        }
        check.due("none by a ship that was not earlier", chart.shipOf(1, 4), 0);
    }

    private static void askedTrader() {
        CableChart chart = Charts.row(2);
        chart.trader(0, 1, 1, 0, 0, 0);
        chart.trader(1, 0, 1, 0, 0, 0);
        for (int none : new int[] {-1, 2, LEAST, MOST}) {
            check.throwsIndex("trader " + none, () -> chart.way(none, 0));
            check.throwsIndex("trader " + none + ", place -1", () -> chart.way(none, -1));
        }
        check.due("the last one", chart.way(1, 0), 0);
    }

    private static void firstOfAWay() {
        CableChart chart = Charts.row(4);
        chart.trader(0, 3, 1, 0, 0, 0);
        chart.trader(3, 0, 1, 0, 0, 0);
        check.due("the first", chart.way(0, 0), 0);
        check.due("the last", chart.way(0, 2), 2);
        check.due("back, the first", chart.way(1, 0), 2);
        check.due("back, the last", chart.way(1, 2), 0);
    }

    private static void behindAWay() {
        CableChart chart = Charts.row(10);
        chart.trader(0, 9, 1, 0, 0, 0);
        chart.trader(0, 1, 1, 0, 0, 0);
        check.due("the last of nine", chart.way(0, 8), 8);
        check.due("behind nine", chart.way(0, 9), -1);
        check.due("far behind nine", chart.way(0, MOST), -1);
        check.due("behind one", chart.way(1, 1), -1);
        chart.cable(9, 0, 1, 1, 1);
        check.due("a shorter way", chart.way(0, 0), 9);
        check.due("behind it, where the longer one went on", chart.way(0, 1), -1);
        chart.fault(9, 0);
        check.due("the longer one again", chart.way(0, 8), 8);
        chart.fault(0, 0);
        check.due("cut off", chart.way(1, 0), -1);
        check.due("cut off, far behind", chart.way(0, MOST), -1);
    }

    private static void placeBelow0() {
        CableChart chart = Charts.row(2);
        chart.trader(0, 1, 1, 0, 0, 0);
        check.throwsIndex("-1", () -> chart.way(0, -1));
        check.throwsIndex("the least", () -> chart.way(0, LEAST));
        chart.fault(0, 0);
        check.throwsIndex("-1, cut off", () -> chart.way(0, -1));
    }

    // 15 to 18

    private static void summedTrader() {
        CableChart chart = Charts.row(3);
        chart.trader(0, 1, 1, 0, 0, 0);
        chart.trader(0, 2, 1, 0, 0, 0);
        for (int none : new int[] {-1, 2, LEAST, MOST}) {
            check.throwsIndex("trader " + none, () -> chart.sum(none, 0));
            check.throwsIndex("trader " + none + ", what 3", () -> chart.sum(none, 3));
        }
        check.due("the first", Charts.sums(chart, 0), "5 10 1, 5");
        check.due("the last", Charts.sums(chart, 1), "10 20 2, 10");
    }

    private static void whatOfASum() {
        CableChart chart = Charts.row(10);
        for (int i = 0; i < 9; i++) {
            chart.price(i, 9999);
        }
        chart.trader(0, 9, 1, 0, 0, 0);
        chart.trader(0, 1, 1, 0, 0, 0);
        for (int wrong : new int[] {-1, 3, LEAST, MOST}) {
            check.throwsArgument("what " + wrong, () -> chart.sum(0, wrong));
        }
        check.due("prices of nine", chart.sum(0, 0), 89991);
        check.due("delays of nine", chart.sum(0, 1), 90);
        check.due("how many of nine", chart.sum(0, 2), 9);
        check.due("how many of one", chart.sum(1, 2), 1);
    }

    private static void sumCutOff() {
        CableChart chart = Charts.row(2);
        chart.trader(0, 1, 1, 0, 0, 0);
        chart.price(0, 0);
        check.due("for nothing", Charts.sums(chart, 0), "0 10 1, 0");
        chart.fault(0, 0);
        for (int what = 0; what < 3; what++) {
            check.due("cut off, what " + what, chart.sum(0, what), -1);
        }
        check.throwsArgument("cut off, what 3", () -> chart.sum(0, 3));
        check.throwsArgument("cut off, what -1", () -> chart.sum(0, -1));
    }

    private static void summedAnew() {
        CableChart chart = Charts.row(3);
        chart.trader(0, 1, 1, 0, 0, 0);
        chart.trader(0, 2, 1, 0, 0, 0);
        for (int none : new int[] {-1, 2, LEAST, MOST}) {
            check.throwsIndex("trader " + none, () -> chart.sumAnew(none));
        }
        check.due("the first", chart.sumAnew(0), 5);
        check.due("the last", chart.sumAnew(1), 10);
    }

    /** Nine cables need as many rounds when each round finds one of them alone. */
    private static void byRounds() {
        CableChart chart = Charts.at(0, 0, 1, 1, 2, 2, 3, 3, 4, 4, 5, 5, 6, 6, 7, 7, 8, 8, 9, 9);
        for (int i = 0; i < 9; i++) {
            chart.cable(i, i + 1, 1, 500, 9999);
        }
        chart.trader(0, 9, 1, 0, 0, 0);
        chart.trader(9, 0, 1, 0, 0, 0);
        check.due("the most, along the cables", chart.sumAnew(0), 89991);
        check.due("the most, against the cables", chart.sumAnew(1), 89991);
        chart.cable(0, 9, 1, 500, 9999);
        check.due("one for all", chart.sumAnew(0), 9999);
        for (int i = 0; i < 9; i++) {
            chart.price(i, 1);
        }
        check.due("less, though of more cables", chart.sumAnew(0), 9);
        check.due("less, back", chart.sumAnew(1), 9);
        chart.price(9, 8);
        check.due("one less", chart.sumAnew(1), 8);
    }

    private static void anewCutOff() {
        CableChart chart = Charts.row(3);
        chart.trader(0, 2, 1, 0, 0, 0);
        chart.price(0, 0);
        chart.price(1, 0);
        check.due("for nothing", chart.sumAnew(0), 0);
        chart.fault(1, 0);
        check.due("cut off at its end", chart.sumAnew(0), -1);
        chart.fault(0, 0);
        check.due("cut off at both ends", chart.sumAnew(0), -1);
    }

    private static void accountOfATrader() {
        CableChart chart = Charts.row(2);
        chart.trader(0, 1, 10, 0, 0, 0);
        chart.pass(1);
        chart.trader(0, 1, 10, 0, 0, 0);
        for (int none : new int[] {-1, 2, LEAST, MOST}) {
            check.throwsIndex("trader " + none, () -> chart.account(none, 0));
            check.throwsIndex("trader " + none + ", what 4", () -> chart.account(none, 4));
        }
        check.due("the first", Charts.account(chart, 0), "5 0 0 0");
        check.due("the last, told after the hour", Charts.account(chart, 1), "0 0 0 0");
        chart.pass(1);
        check.due("the last, an hour later", Charts.account(chart, 1), "5 0 0 0");
    }

    private static void whatOfAnAccount() {
        CableChart chart = Charts.row(2);
        chart.trader(0, 1, 9, 7, 3, 1000);
        for (int wrong : new int[] {-1, 4, LEAST, MOST}) {
            check.throwsArgument("what " + wrong, () -> chart.account(0, wrong));
        }
        chart.pass(2);
        chart.fault(0, 0);
        chart.pass(3);
        check.due("prices paid", chart.account(0, 0), 10);
        check.due("credits", chart.account(0, 1), 27);
        check.due("hours cut off", chart.account(0, 2), 3);
        check.due("hours late", chart.account(0, 3), 2);
    }

    /** 23864 hours at 89991 are the first that an int does not hold. */
    private static void longAccount() {
        CableChart chart = Charts.row(10);
        for (int i = 0; i < 9; i++) {
            chart.price(i, 9999);
        }
        chart.trader(0, 9, 5000, 0, 0, 0);
        for (int i = 0; i < 47; i++) {
            chart.pass(500);
        }
        chart.pass(363);
        check.due("an int still", chart.account(0, 0), 2147455233L);
        chart.pass(1);
        check.due("no int any more", chart.account(0, 0), 2147545224L);
        for (int i = 0; i < 100; i++) {
            chart.pass(500);
        }
        check.due("twice as much and more", chart.account(0, 0), 6647095224L);
    }

    private static void reachedFromNone() {
        CableChart chart = Charts.row(3);
        for (int none : new int[] {-1, 3, LEAST, MOST}) {
            check.throwsIndex("island " + none, () -> chart.reach(none));
        }
        check.due("the first", chart.reach(0), 7);
        check.due("the last", chart.reach(2), 7);
    }

    private static void itselfWithThem() {
        CableChart chart = new CableChart();
        for (int i = 0; i < 10; i++) {
            chart.island(0, 0);
            check.due("itself alone", chart.reach(i), 1 << i);
        }
        for (int i = 0; i < 9; i++) {
            chart.cable(i + 1, i, 1, 1, 1);
            check.due("one more", chart.reach(0), (1 << i + 2) - 1);
            check.due("one more, from there", chart.reach(i + 1), (1 << i + 2) - 1);
        }
    }

    private static void reachedByCablesThatWork() {
        CableChart chart = Charts.row(10);
        for (int cut = 0; cut < 9; cut++) {
            CableChart one = Charts.row(10);
            one.fault(cut, 0);
            int lower = (1 << cut + 1) - 1;
            check.due("below cable " + cut, one.reach(0), lower);
            check.due("above cable " + cut, one.reach(9), 1023 - lower);
            chart.fault(cut, 0);
        }
        for (int i = 0; i < 10; i++) {
            check.due("no cable works", chart.reach(i), 1 << i);
        }
        chart.cable(0, 9, 1, 1, 1);
        check.due("a new one", chart.reach(9), 513);
    }
}
