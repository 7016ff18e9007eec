/** Charts that tests begin with, and what they ask often, told in one text. */
final class Charts {
    private Charts() {
    }

    /** Islands at places: x and y of each, one behind the other. */
    static CableChart at(int... places) {
        CableChart chart = new CableChart();
        for (int i = 0; i + 1 < places.length; i += 2) {
            chart.island(places[i], places[i + 1]);
        }
        return chart;
    }

    /** Islands at 0, 0 and 10, 0 and on, each with a cable to the next one: 1 span, delay 10, price 5. */
    static CableChart row(int islands) {
        CableChart chart = new CableChart();
        for (int i = 0; i < islands; i++) {
            chart.island(10 * i, 0);
        }
        for (int i = 0; i + 1 < islands; i++) {
            chart.cable(i, i + 1, 1, 10, 5);
        }
        return chart;
    }

    /**
     * Cables with faults, ships of which each does something else, and traders: in time, late, cut
     * off. There is room for one more of each.
     */
    static CableChart busy() {
        CableChart chart = row(9);
        for (int i = 8; i < 15; i++) {
            chart.cable(i - 8, i - 6, 8, 25, 11);
        }
        chart.ship(0, 20);
        chart.ship(0, 20);
        chart.ship(8, 1);
        for (int i = 0; i < 11; i++) {
            chart.trader(i % 9, (i + 2) % 9, 24, 7, 3, 1000);
        }
        chart.fault(3, 0);
        chart.fault(11, 7);
        chart.fault(4, 0);
        chart.fault(12, 2);
        chart.fault(0, 0);
        chart.send(1, 0, 0);
        chart.send(2, 4, 0);
        chart.pass(3);
        return chart;
    }

    /** The same, and as many of each as there may be. */
    static CableChart full() {
        CableChart chart = busy();
        chart.island(99, 99);
        chart.cable(9, 0, 8, 500, 9999);
        chart.ship(9, 20);
        chart.trader(9, 0, 500, 1, 1, 1);
        return chart;
    }

    /** All that can be asked, one behind what there is of each too. */
    static String state(CableChart chart) {
        StringBuilder all = new StringBuilder();
        for (int i = 0; i <= 10; i++) {
            int island = i;
            all.append("\nreach ").append(Check.outcome(() -> chart.reach(island)));
        }
        for (int i = 0; i <= 16; i++) {
            int cable = i;
            all.append("\nworks ").append(Check.outcome(() -> chart.works(cable) ? 1 : 0));
        }
        all.append("\nfaults ").append(faults(chart));
        for (int ship = 0; ship <= 4; ship++) {
            all.append("\nship ").append(ship(chart, ship));
        }
        for (int trader = 0; trader <= 12; trader++) {
            all.append("\nway ").append(way(chart, trader)).append("; ").append(sums(chart, trader));
            all.append("; ").append(account(chart, trader));
        }
        return all.toString();
    }

    /** All faults, the oldest one first: 8 times the cable, and the span. */
    static String faults(CableChart chart) {
        return listed(chart::faultAt, 128);
    }

    static String way(CableChart chart, int trader) {
        return listed(place -> chart.way(trader, place), 10);
    }

    /** Prices, delays, cables, and the prices found a second time. */
    static String sums(CableChart chart, int trader) {
        return told(3, what -> chart.sum(trader, what)) + ", " + Check.outcome(() -> chart.sumAnew(trader));
    }

    /** Prices paid, credits, hours cut off, hours that were late. */
    static String account(CableChart chart, int trader) {
        return told(4, what -> chart.account(trader, what));
    }

    /** What it does, x, y, the hours to go, how many faults it has mended. */
    static String ship(CableChart chart, int ship) {
        return told(5, what -> chart.shipOf(ship, what));
    }

    private interface Question {
        long of(int number);
    }

    private static String told(int count, Question question) {
        StringBuilder told = new StringBuilder();
        for (int i = 0; i < count; i++) {
            int number = i;
            told.append(i == 0 ? "" : " ").append(Check.outcome(() -> question.of(number)));
        }
        return told.toString();
    }

    /** The answers from 0 on, ahead of the first -1, or at most one that is no number. */
    private static String listed(Question question, int most) {
        StringBuilder row = new StringBuilder();
        for (int i = 0; i <= most; i++) {
            int number = i;
            String answer = Check.outcome(() -> question.of(number));
            if (answer.equals("-1")) {
                return row.length() == 0 ? "none" : row.toString();
            }
            row.append(i == 0 ? "" : " ").append(answer);
            if (answer.startsWith("throws.")) {
                return row.toString();
            }
        }
        return row + " and no end";
    }
}
