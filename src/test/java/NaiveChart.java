import java.util.ArrayList;
import java.util.List;

/**
 * The document once more, as plainly as it can be told and with nothing kept: every way is sought
 * among all rows of cables. RunsTest holds CableChart against it.
 */
final class NaiveChart {
    private final List<int[]> islands = new ArrayList<>(); // x, y
    private final List<int[]> cables = new ArrayList<>(); // island, other, spans, delay, price
    private final List<Integer> faults = new ArrayList<>(); // 8 times the cable, and the span
    private final List<int[]> ships = new ArrayList<>(); // state, x, y, hours, mended, speed, target
    private final List<int[]> traders = new ArrayList<>(); // from, to, delay, cut, late, most
    private final List<long[]> accounts = new ArrayList<>(); // paid, credits, cut off, late
    private int hour = 0;
    private int seen = 0;
    private List<Integer> best;

    private static void exists(int index, int count) {
        if (!(0 <= index && index < count)) {
            throw new IndexOutOfBoundsException();
        }
    }

    private static void fits(boolean inRange) {
        if (!inRange) {
            throw new IllegalArgumentException();
        }
    }

    private static void possible(boolean now) {
        if (!now) {
            throw new IllegalStateException();
        }
    }

    private static boolean in(int least, int value, int most) {
        return least <= value && value <= most;
    }

    int island(int x, int y) {
        fits(in(0, x, 99) && in(0, y, 99));
        possible(islands.size() < 10);
        islands.add(new int[] {x, y});
        return islands.size() - 1;
    }

    int cable(int island, int other, int spans, int delay, int price) {
        exists(island, islands.size());
        exists(other, islands.size());
        fits(island != other && in(1, spans, 8) && in(1, delay, 500) && in(0, price, 9999));
        possible(cables.size() < 16);
        cables.add(new int[] {island, other, spans, delay, price});
        return cables.size() - 1;
    }

    int price(int cable, int price) {
        exists(cable, cables.size());
        fits(in(0, price, 9999));
        int was = cables.get(cable)[4];
        cables.get(cable)[4] = price;
        return was;
    }

    int fault(int cable, int span) {
        exists(cable, cables.size());
        exists(span, cables.get(cable)[2]);
        possible(!faults.contains(8 * cable + span));
        faults.add(8 * cable + span);
        return faults.size();
    }

    int ship(int island, int speed) {
        exists(island, islands.size());
        fits(in(1, speed, 20));
        possible(ships.size() < 4);
        int[] at = islands.get(island);
        ships.add(new int[] {0, at[0], at[1], 0, 0, speed, -1});
        return ships.size() - 1;
    }

    int send(int ship, int cable, int span) {
        exists(ship, ships.size());
        exists(cable, cables.size());
        exists(span, cables.get(cable)[2]);
        possible(ships.get(ship)[0] == 0 && faults.contains(8 * cable + span));
        int[] laid = cables.get(cable);
        int[] one = islands.get(laid[0]);
        int[] two = islands.get(laid[1]);
        return sail(ships.get(ship), ahead(one[0], two[0], span, laid[2]),
                ahead(one[1], two[1], span, laid[2]), 8 * cable + span);
    }

    private static int ahead(int one, int two, int span, int spans) {
        int times = 2 * span + 1;
        int more = two - one;
        return more < 0 ? one - times * -more / (2 * spans) : one + times * more / (2 * spans);
    }

    int home(int ship, int island) {
        exists(ship, ships.size());
        exists(island, islands.size());
        possible(ships.get(ship)[0] == 0);
        return sail(ships.get(ship), islands.get(island)[0], islands.get(island)[1], -1);
    }

    private int sail(int[] ship, int x, int y, int target) {
        int apart = Math.abs(ship[1] - x) + Math.abs(ship[2] - y);
        int hours = 0;
        while (hours * ship[5] < apart) {
            hours++;
        }
        ship[0] = 1;
        ship[1] = x;
        ship[2] = y;
        ship[3] = hours;
        ship[6] = target;
        if (hours == 0) {
            next(ship);
        }
        return hours;
    }

    private void next(int[] ship) {
        boolean there = faults.contains(ship[6]);
        if (ship[0] == 1 && there) {
            ship[0] = 2;
            ship[3] = 6;
        } else if (ship[0] == 2) {
            ship[0] = 3;
            ship[3] = 2;
        } else {
            if (ship[0] == 3 && there) {
                faults.remove(Integer.valueOf(ship[6]));
                ship[4]++;
            }
            ship[0] = 0;
        }
    }

    int trader(int from, int to, int delay, int cut, int late, int most) {
        exists(from, islands.size());
        exists(to, islands.size());
        fits(from != to && in(1, delay, 5000) && in(0, cut, 9999) && in(0, late, 9999) && in(0, most, 1000000));
        possible(traders.size() < 12);
        traders.add(new int[] {from, to, delay, cut, late, most});
        accounts.add(new long[4]);
        return traders.size() - 1;
    }

    int pass(int hours) {
        fits(in(1, hours, 500));
        for (int i = 0; i < hours; i++) {
            hour++;
            for (int[] ship : ships) {
                if (ship[0] != 0 && --ship[3] == 0) {
                    next(ship);
                }
            }
            for (int trader = 0; trader < traders.size(); trader++) {
                settle(traders.get(trader), accounts.get(trader), wayOf(trader));
            }
        }
        return hour;
    }

    private void settle(int[] trader, long[] account, List<Integer> way) {
        if (way == null) {
            account[2]++;
            account[1] += trader[3];
        } else {
            account[0] += total(way, 4);
            if (total(way, 3) > trader[2]) {
                account[3]++;
                account[1] += trader[4];
            }
        }
        if (account[1] > trader[5]) {
            account[1] = trader[5];
        }
    }

    boolean works(int cable) {
        exists(cable, cables.size());
        for (int fault : faults) {
            if (fault / 8 == cable) {
                return false;
            }
        }
        return true;
    }

    int faultAt(int rank) {
        exists(Math.min(rank, 0), 1);
        return rank < faults.size() ? faults.get(rank) : -1;
    }

    int shipOf(int ship, int what) {
        exists(ship, ships.size());
        fits(in(0, what, 4));
        return ships.get(ship)[what];
    }

    int way(int trader, int place) {
        exists(trader, traders.size());
        exists(Math.min(place, 0), 1);
        List<Integer> way = wayOf(trader);
        return way != null && place < way.size() ? way.get(place) : -1;
    }

    int sum(int trader, int what) {
        exists(trader, traders.size());
        fits(in(0, what, 2));
        List<Integer> way = wayOf(trader);
        if (way == null) {
            return -1;
        }
        return what == 0 ? total(way, 4) : what == 1 ? total(way, 3) : way.size();
    }

    int sumAnew(int trader) {
        exists(trader, traders.size());
        return sum(trader, 0);
    }

    long account(int trader, int what) {
        exists(trader, traders.size());
        fits(in(0, what, 3));
        return accounts.get(trader)[what];
    }

    int reach(int island) {
        exists(island, islands.size());
        int set = 0;
        for (int other = 0; other < islands.size(); other++) {
            if (other == island || seek(island, other) != null) {
                set += 1 << other;
            }
        }
        return set;
    }

    private List<Integer> wayOf(int trader) {
        return seek(traders.get(trader)[0], traders.get(trader)[1]);
    }

    private List<Integer> seek(int from, int to) {
        best = null;
        seen = 1 << from;
        tryAll(from, to, new ArrayList<>());
        return best;
    }

    private void tryAll(int here, int to, List<Integer> row) {
        if (here == to) {
            if (best == null || isBetter(row, best)) {
                best = new ArrayList<>(row);
            }
            return;
        }
        for (int cable = 0; cable < cables.size(); cable++) {
            int[] laid = cables.get(cable);
            boolean touches = laid[0] == here || laid[1] == here;
            int next = laid[0] == here ? laid[1] : laid[0];
            if (touches && (seen >> next & 1) == 0 && works(cable)) {
                seen |= 1 << next;
                row.add(cable);
                tryAll(next, to, row);
                row.remove(row.size() - 1);
                seen &= ~(1 << next);
            }
        }
    }

    private boolean isBetter(List<Integer> row, List<Integer> other) {
        if (total(row, 4) != total(other, 4)) {
            return total(row, 4) < total(other, 4);
        }
        if (total(row, 3) != total(other, 3)) {
            return total(row, 3) < total(other, 3);
        }
        if (row.size() != other.size()) {
            return row.size() < other.size();
        }
        for (int place = 0; place < row.size(); place++) {
            if (!row.get(place).equals(other.get(place))) {
                return row.get(place) < other.get(place);
            }
        }
        return false;
    }

    private int total(List<Integer> row, int column) {
        int total = 0;
        for (int cable : row) {
            total += cables.get(cable)[column];
        }
        return total;
    }
}
