import java.util.ArrayList;
import java.util.List;

/** Long runs of calls, the same each time, held against NaiveChart; wrong calls are among them. */
public final class RunsTest {
    private static final int RUNS = 700;
    private static final int CALLS = 512;
    private static final int[] WILD = {
        Integer.MIN_VALUE, Integer.MIN_VALUE + 1, -65536, -101, -2, -1, 0, 1, 2, 3, 4, 5, 7, 8, 9, 10, 11, 12, 13, 15,
        16, 17, 19, 20, 21, 31, 32, 63, 64, 98, 99, 100, 127, 128, 255, 499, 500, 501, 4999, 5000, 5001, 9998, 9999,
        10000, 65536, 999999, 1000000, 1000001, 1 << 28, 1 << 29, 1 << 30, Integer.MAX_VALUE - 1, Integer.MAX_VALUE
    };

    private final Check check;
    private final int run;
    private final CableChart chart = new CableChart();
    private final NaiveChart naive = new NaiveChart();
    private final List<String> told = new ArrayList<>();
    private long seed;
    /** In tight runs prices and delays are few, so that ways tie; in wide ones they are not. */
    private final boolean tight;
    private final int mostIslands;
    private int islands = 0;
    private int cables = 0;
    private int ships = 0;
    private int traders = 0;

    private RunsTest(Check check, int run) {
        this.check = check;
        this.run = run;
        this.seed = 0x5DEECE66DL * (run + 1) + 11;
        this.tight = run % 3 != 0;
        this.mostIslands = 2 + run % 10;
    }

    public static void main(String[] args) {
        Check check = new Check("RunsTest");
        for (int run = 0; run < RUNS && check.wrong() == 0; run++) {
            new RunsTest(check, run).play();
        }
        check.end();
    }

    private int below(int bound) {
        seed = seed * 6364136223846793005L + 1442695040888963407L;
        return (int) ((seed >>> 33) % bound);
    }

    private int from(int least, int most) {
        return below(25) == 0 ? wild() : least + below(most - least + 1);
    }

    private int wild() {
        return WILD[below(WILD.length)];
    }

    /** The number of one that there is, for the most part. */
    private int one(int count) {
        return below(30) == 0 || count == 0 ? wild() : below(count);
    }

    private void play() {
        for (int call = 0; call < CALLS && check.wrong() == 0; call++) {
            if (call < 50) {
                build(below(5));
            } else {
                goOn(below(100));
            }
        }
        if (check.wrong() != 0) {
            System.out.println("run " + run + ":\n" + String.join("\n", told));
        }
    }

    private String hold(String what, Check.Call got, Check.Call want) {
        String due = Check.outcome(want);
        told.add(what + " = " + due);
        check.due("run " + run + ", " + what, Check.outcome(got), due);
        return due;
    }

    private static int oneMore(String answer, int count) {
        return answer.startsWith("throws.") ? count : count + 1;
    }

    private void build(int which) {
        if (islands < mostIslands && (which < 4 || islands < 2)) {
            int x = from(0, tight ? 30 : 99);
            int y = from(0, tight ? 30 : 99);
            islands = oneMore(hold("island(" + x + ", " + y + ")", () -> chart.island(x, y), () -> naive.island(x, y)),
                    islands);
        } else if (which <= 2) {
            lay();
        } else if (which == 3) {
            int island = one(islands);
            int speed = from(1, 20);
            ships = oneMore(hold("ship(" + island + ", " + speed + ")", () -> chart.ship(island, speed),
                    () -> naive.ship(island, speed)), ships);
        } else {
            tell();
        }
    }

    private void lay() {
        int island = one(islands);
        int other = one(islands);
        int spans = from(1, 8);
        int delay = from(1, tight ? 4 : 500);
        int price = from(0, tight ? 3 : 9999);
        cables = oneMore(hold("cable(" + island + ", " + other + ", " + spans + ", " + delay + ", " + price + ")",
                () -> chart.cable(island, other, spans, delay, price),
                () -> naive.cable(island, other, spans, delay, price)), cables);
    }

    private void tell() {
        int here = one(islands);
        int there = one(islands);
        int delay = from(1, tight ? 12 : 2000);
        int cut = from(0, 9999);
        int late = from(0, 9999);
        int most = from(0, 1000000);
        traders = oneMore(hold("trader(" + here + ", " + there + ", " + delay + ", " + cut + ", " + late + ", " + most
                + ")", () -> chart.trader(here, there, delay, cut, late, most),
                () -> naive.trader(here, there, delay, cut, late, most)), traders);
    }

    private void goOn(int which) {
        if (which < 5) {
            build(below(5));
        } else if (which < 10) {
            int cable = one(cables);
            int price = from(0, tight ? 3 : 9999);
            hold("price(" + cable + ", " + price + ")", () -> chart.price(cable, price),
                    () -> naive.price(cable, price));
        } else if (which < 16) {
            int cable = one(cables);
            int span = from(0, 3);
            hold("fault(" + cable + ", " + span + ")", () -> chart.fault(cable, span),
                    () -> naive.fault(cable, span));
        } else if (which < 34) {
            command(below(10));
        } else if (which < 46) {
            int hours = below(60) == 0 ? from(1, 500) : from(1, 6);
            hold("pass(" + hours + ")", () -> chart.pass(hours), () -> naive.pass(hours));
        } else {
            ask(below(8));
        }
    }

    /** Half of the ships go to the same few faults, so that they meet there. */
    private void command(int which) {
        int ship = one(ships);
        if (which == 0) {
            int island = one(islands);
            hold("home(" + ship + ", " + island + ")", () -> chart.home(ship, island),
                    () -> naive.home(ship, island));
            return;
        }
        int known = naive.faultAt(below(which < 6 ? 2 : 8));
        int cable = known < 0 || which == 9 ? one(cables) : known / 8;
        int span = known < 0 || which == 9 ? from(0, 7) : known % 8;
        hold("send(" + ship + ", " + cable + ", " + span + ")", () -> chart.send(ship, cable, span),
                () -> naive.send(ship, cable, span));
    }

    private void ask(int which) {
        int cable = one(cables);
        int ship = one(ships);
        int trader = one(traders);
        int island = one(islands);
        int what = from(0, 4);
        int place = from(0, 8);
        switch (which) {
            case 0 -> hold("works(" + cable + ")", () -> chart.works(cable) ? 1 : 0, () -> naive.works(cable) ? 1 : 0);
            case 1 -> hold("faultAt(" + place + ")", () -> chart.faultAt(place), () -> naive.faultAt(place));
            case 2 -> hold("shipOf(" + ship + ", " + what + ")", () -> chart.shipOf(ship, what),
                    () -> naive.shipOf(ship, what));
            case 3 -> hold("way(" + trader + ", " + place + ")", () -> chart.way(trader, place),
                    () -> naive.way(trader, place));
            case 4 -> hold("sum(" + trader + ", " + what + ")", () -> chart.sum(trader, what),
                    () -> naive.sum(trader, what));
            case 5 -> hold("sumAnew(" + trader + ")", () -> chart.sumAnew(trader), () -> naive.sumAnew(trader));
            case 6 -> hold("account(" + trader + ", " + what + ")", () -> chart.account(trader, what),
                    () -> naive.account(trader, what));
            default -> hold("reach(" + island + ")", () -> chart.reach(island), () -> naive.reach(island));
        }
    }
}
