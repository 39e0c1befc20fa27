import java.util.Random;

/** What the document's first lines say of the whole, on houses drawn from fixed seeds. */
public final class WhatItIsTest extends Bounds {
    private static final int HOUSES = 300;
    /** What lower() answers is one of 1 to 6, and each of these parts this number. */
    private static final long COMMON = 60;

    public static void main(String[] args) {
        roomsNobodyEnvies();
        choresByTurns();
        choresEnviedByOneAtMost();
        swapsByWhichAllGain();
        debtsSettled();
        debtsWithTheFewestPayments();
        billsByTheDays();
        pointsHeldAtOneSum();
        asItWasKnown();
        end();
    }

    private static void roomsNobodyEnvies() {
        promise(14, "A house that is shared: rooms and rents that nobody envies, exact by prices");
        for (int seed = 0; seed < HOUSES; seed++) {
            Random random = new Random(seed);
            int rooms = 1 + random.nextInt(6);
            int rent = random.nextInt(100_001);
            int[][] values = drawn(random, rooms, rooms, wideness(random, 100_001));
            House h = House.of(rooms + random.nextInt(2));
            h.done("let(" + rooms + ", " + rent + ")");
            h.values(values);
            long[] prices = new long[rooms];
            long all = 0;
            for (int r = 0; r < rooms; r++) {
                h.done("price(" + r + ")");
                prices[r] = h.ask("upper()") * COMMON / h.ask("lower()");
                all += prices[r];
            }
            if (all != rent * COMMON) {
                fault("seed " + seed + ": the prices together are " + all + " by 60, the rent is " + rent);
            }
            for (int p = 0; p < rooms; p++) {
                lookForEnvy(seed, values[p], prices, (int) h.ask("room(" + p + ")"));
            }
        }
    }

    private static void lookForEnvy(int seed, int[] values, long[] prices, int own) {
        for (int r = 0; r < prices.length; r++) {
            if (values[own] * COMMON - prices[own] < values[r] * COMMON - prices[r]) {
                fault("seed " + seed + ": who has room " + own + " envies room " + r);
            }
        }
    }

    /** By turns: nobody has two CHORES more than another one. By bids: the first one has what they MIND least. */
    private static void choresByTurns() {
        promise(19, "chores by turns and bids of dislike");
        for (int seed = 0; seed < HOUSES; seed++) {
            Random random = new Random(seed);
            int people = 1 + random.nextInt(4);
            int chores = 1 + random.nextInt(12);
            int first = random.nextInt(people);
            int[][] minds = drawn(random, people, chores, wideness(random, 1_001));
            House h = House.of(people, chores);
            h.minds(minds);
            h.done("turns(" + people + ", " + first + ")");
            int[] had = new int[people];
            int least = 0;
            for (int c = 0; c < chores; c++) {
                had[(int) h.ask("whose(" + c + ")")]++;
                least = minds[first][c] < minds[first][least] ? c : least;
            }
            h.gives(first, "whose(" + least + ")");
            for (int p = 0; p < people; p++) {
                if (had[p] != chores / people && had[p] != chores / people + 1) {
                    fault("seed " + seed + ": one of " + people + " has " + had[p] + " of " + chores + " chores");
                }
            }
        }
    }

    private static void choresEnviedByOneAtMost() {
        promise(22, "envied by one chore at most");
        int envied = 0;
        for (int seed = 0; seed < HOUSES; seed++) {
            Random random = new Random(seed);
            int people = 2 + random.nextInt(4);
            int chores = random.nextInt(20);
            House h = House.of(people, chores);
            h.minds(drawn(random, people, chores, wideness(random, 1_001)));
            int m = 1 + random.nextInt(people);
            h.done("turns(" + m + ", " + random.nextInt(m) + ")");
            for (int a = 0; a < m; a++) {
                for (int b = 0; b < m; b++) {
                    long answer = a == b ? 0 : h.ask("envies(" + a + ", " + b + ")");
                    envied += answer == 1 ? 1 : 0;
                    if (answer != 0 && answer != 1) {
                        fault("seed " + seed + ": envies(" + a + ", " + b + ") answered " + answer + " behind turns");
                    }
                }
            }
        }
        if (envied == 0) {
            fault("nobody envied at all");
        }
    }

    private static void swapsByWhichAllGain() {
        promise(23, "and rings of swaps by which all gain");
        for (int seed = 0; seed < HOUSES; seed++) {
            Random random = new Random(seed);
            int people = 2 + random.nextInt(4);
            int chores = 2 + random.nextInt(7);
            House h = House.of(people, chores);
            h.minds(drawn(random, people, chores, wideness(random, 8)));
            for (int c = 0; c < chores; c++) {
                h.done("take(" + c + ", " + (random.nextInt(people + 1) - 1) + ")");
            }
            swapUntilNone(seed, h, people);
        }
    }

    /** Each SWAP lessens some BURDENS and no other changes, so that there is an end. */
    private static void swapUntilNone(int seed, House h, int people) {
        long[] burdens = burdens(h, people);
        long many = h.ask("swap()");
        for (int swaps = 0; many != ChoreHouse.NONE && swaps < 60; swaps++) {
            long[] later = burdens(h, people);
            int gained = 0;
            for (int p = 0; p < people; p++) {
                gained += later[p] < burdens[p] ? 1 : 0;
                if (later[p] > burdens[p]) {
                    fault("seed " + seed + ": " + p + " lost by a swap");
                }
            }
            if (gained != many || many < 2) {
                fault("seed " + seed + ": " + gained + " gained by a swap of " + many);
            }
            burdens = later;
            many = h.ask("swap()");
        }
        h.answers(9, "status()");
    }

    private static long[] burdens(House h, int people) {
        long[] burdens = new long[people];
        for (int p = 0; p < people; p++) {
            burdens[p] = h.ask("burden(" + p + ")");
        }
        return burdens;
    }

    /** The PLAN, paid out step by step, leaves nobody owing; each pays and takes only as much as was open. */
    private static void debtsSettled() {
        promise(28, "debts netted and settled");
        for (int seed = 0; seed < HOUSES; seed++) {
            Random random = new Random(seed);
            int people = 1 + random.nextInt(10);
            House h = House.of(people);
            drawPayments(h, random, people, wideness(random, 1_000_000));
            long[] open = balances(h, people);
            long all = 0;
            for (long balance : open) {
                all += balance;
            }
            if (all != 0) {
                fault("seed " + seed + ": the balances together are " + all);
            }
            long fewest = h.ask("fewest()");
            for (int k = 0; k < fewest; k++) {
                int payer = (int) h.ask("plan(" + k + ", 0)");
                int taker = (int) h.ask("plan(" + k + ", 1)");
                long money = h.ask("plan(" + k + ", 2)");
                if (money < 1 || -open[payer] < money || open[taker] < money) {
                    fault("seed " + seed + ": payment " + k + " is more than was open");
                }
                open[payer] += money;
                open[taker] -= money;
            }
            for (int p = 0; p < people; p++) {
                if (open[p] != 0) {
                    fault("seed " + seed + ": behind the plan " + p + " has " + open[p]);
                }
            }
        }
    }

    /** No way with one payment less, whatever is paid by whom to whom. */
    private static void debtsWithTheFewestPayments() {
        promise(27, "with the fewest payments there can be");
        for (int seed = 0; seed < HOUSES; seed++) {
            Random random = new Random(seed);
            int people = 2 + random.nextInt(4);
            House h = House.of(people);
            drawPayments(h, random, people, 5);
            long[] open = balances(h, people);
            int fewest = (int) h.ask("fewest()");
            if (!canSettle(open, fewest)) {
                fault("seed " + seed + ": " + fewest + " payments don't settle");
            }
            if (fewest > 0 && canSettle(open, fewest - 1)) {
                fault("seed " + seed + ": " + (fewest - 1) + " payments settle, too");
            }
        }
    }

    /** A payment changes two BALANCES, so more than twice as many as payments can't become 0. */
    private static boolean canSettle(long[] open, int payments) {
        int owing = 0;
        for (long balance : open) {
            owing += balance != 0 ? 1 : 0;
        }
        if (owing == 0 || owing > 2 * payments) {
            return owing == 0;
        }
        for (int payer = 0; payer < open.length; payer++) {
            for (int taker = 0; taker < open.length; taker++) {
                if (open[payer] < 0 && open[taker] > 0 && canSettleBehind(open, payer, taker, payments - 1)) {
                    return true;
                }
            }
        }
        return false;
    }

    private static boolean canSettleBehind(long[] open, int payer, int taker, int payments) {
        long most = 0;
        for (long balance : open) {
            most += Math.max(0, balance);
        }
        for (long money = 1; money <= most; money++) {
            long[] behind = open.clone();
            behind[payer] += money;
            behind[taker] -= money;
            if (canSettle(behind, payments)) {
                return true;
            }
        }
        return false;
    }

    private static void drawPayments(House h, Random random, int people, int most) {
        int payments = random.nextInt(12);
        for (int i = 0; i < payments; i++) {
            int set = 1 + random.nextInt((1 << people) - 1);
            h.done("paid(" + random.nextInt(people) + ", " + (1 + random.nextInt(most)) + ", " + set + ")");
        }
    }

    private static long[] balances(House h, int people) {
        long[] balances = new long[people];
        for (int p = 0; p < people; p++) {
            balances[p] = h.ask("balance(" + p + ")");
        }
        return balances;
    }

    /** The days are counted by asking day by day whether one is THERE. */
    private static void billsByTheDays() {
        promise(31, "bills by the days that each was there");
        for (int seed = 0; seed < HOUSES; seed++) {
            Random random = new Random(seed);
            int people = 1 + random.nextInt(4);
            House h = House.of(people);
            drawStays(h, random, people, 0, 19);
            int from = random.nextInt(15);
            int to = from + random.nextInt(15);
            int known = random.nextInt(25);
            int amount = random.nextInt(2) * 999_999_000 + random.nextInt(1_000);
            long[] days = new long[people];
            long all = 0;
            for (int p = 0; p < people; p++) {
                for (int day = from; day <= to; day++) {
                    days[p] += h.ask("there(" + p + ", " + day + ", " + known + ")");
                }
                all += days[p];
            }
            long paid = 0;
            for (int p = 0; p < people; p++) {
                long bill = h.ask("bill(" + p + ", " + amount + ", " + from + ", " + to + ", " + known + ")");
                h.answers(all == 0 ? 9 : 0, "status()");
                paid += bill;
                if (all != 0 && Math.abs(bill * all - amount * days[p]) >= all) {
                    fault("seed " + seed + ": " + p + " pays " + bill + " of " + amount + " for " + days[p] + " days of " + all);
                }
            }
            if (all != 0 && paid != amount) {
                fault("seed " + seed + ": of " + amount + " all pay " + paid);
            }
        }
    }

    private static void pointsHeldAtOneSum() {
        promise(33, "points held at one sum, both parted to the last penny");
        for (int seed = 0; seed < HOUSES; seed++) {
            Random random = new Random(seed);
            int people = 1 + random.nextInt(10);
            House h = House.of(people);
            int wideness = wideness(random, 1_000_001);
            for (int p = 0; p < people; p++) {
                h.done("points(" + p + ", " + random.nextInt(wideness) + ")");
            }
            h.done("points(" + random.nextInt(people) + ", " + (1 + random.nextInt(wideness - 1)) + ")");
            // Held again and again, the sum is the new one each time.
            for (int i = 0; i < 3; i++) {
                int sum = 1 + random.nextInt(1_000_000);
                h.done("hold(" + sum + ")");
                for (int p = 0; p < people; p++) {
                    sum -= h.ask("has(" + p + ")");
                }
                if (sum != 0) {
                    fault("seed " + seed + ": " + sum + " points were not parted");
                }
            }
        }
    }

    /** What is told and struck on later days leaves what was known ahead of them as it was. */
    private static void asItWasKnown() {
        promise(10, "and who lives there when, as it was known.");
        for (int seed = 0; seed < HOUSES; seed++) {
            Random random = new Random(seed);
            House h = House.of(2);
            int stays = drawStays(h, random, 2, 0, 9);
            long[][] known = knownUpToNine(h);
            drawStays(h, random, 2, 10, 19);
            for (int s = 0; s < stays; s++) {
                h.ask("strike(" + s + ", " + (10 + random.nextInt(10)) + ")");
            }
            long[][] later = knownUpToNine(h);
            for (int i = 0; i < known.length; i++) {
                for (int day = 0; day < known[i].length; day++) {
                    if (later[i][day] != known[i][day]) {
                        fault("seed " + seed + ": day " + day + " as known on day " + i / 2 + " is another one later");
                    }
                }
            }
        }
    }

    private static long[][] knownUpToNine(House h) {
        long[][] there = new long[20][9];
        for (int i = 0; i < there.length; i++) {
            for (int day = 0; day < there[i].length; day++) {
                there[i][day] = h.ask("there(" + i % 2 + ", " + day * 3 + ", " + i / 2 + ")");
            }
        }
        return there;
    }

    /** STAYS on days 0 to 28, TOLD and STRUCK on days of the span; answers how many. */
    private static int drawStays(House h, Random random, int people, int firstDay, int lastDay) {
        int stays = random.nextInt(6);
        int span = lastDay - firstDay + 1;
        for (int s = 0; s < stays; s++) {
            int from = random.nextInt(20);
            int number = (int) h.ask("stay(" + random.nextInt(people) + ", " + from + ", " + (from + random.nextInt(9)) + ", "
                + (firstDay + random.nextInt(span)) + ")");
            if (random.nextInt(3) == 0) {
                h.done("strike(" + number + ", " + (firstDay + random.nextInt(span)) + ")");
            }
        }
        return stays;
    }

    /** Small numbers make more ties. */
    private static int wideness(Random random, int most) {
        return Math.min(most, new int[] {2, 4, 12, most}[random.nextInt(4)]);
    }

    private static int[][] drawn(Random random, int rows, int columns, int wideness) {
        int[][] numbers = new int[rows][columns];
        for (int[] row : numbers) {
            for (int i = 0; i < columns; i++) {
                row[i] = random.nextInt(wideness);
            }
        }
        return numbers;
    }
}
