import java.math.BigInteger;
import java.util.ArrayList;
import java.util.Arrays;
import java.util.List;
import java.util.Random;

/**
 * Runs of up to 512 calls drawn from fixed seeds. Each answer, and STATUS and FRACTION among them, is
 * compared with a model that follows the document's words by trying everything.
 */
public final class ModelRunsTest {
    private static final int RUNS = 3000;
    /** Nothing is promised about an object behind so many, status(), upper() and lower() among them. */
    private static final int CALLS = 512;
    private static final int CALLS_OF_A_STEP = 4;
    private static final String[] NAMES = {"tray", "write", "read", "pour", "person", "stay", "strike", "there", "let",
        "value", "room", "price", "chore", "mind", "turns", "whose", "burden", "envies", "swap", "take", "paid",
        "balance", "fewest", "plan", "settle", "part", "bill", "points", "hold", "has"};

    private static int wrong = 0;

    public static void main(String[] args) {
        for (int run = 0; run < RUNS && wrong < 20; run++) {
            compareRun(run);
        }
        System.out.println(wrong == 0 ? RUNS + " runs as the model" : wrong + " answers are not as the model's");
        if (wrong != 0) {
            System.exit(1);
        }
    }

    /** In half of the runs STATUS is looked at now and then alone, so that more can be done in 512 calls. */
    private static void compareRun(int run) {
        Random random = new Random(run);
        Draw draw = new Draw(random, run);
        ChoreHouse house = new ChoreHouse();
        Model model = new Model();
        boolean eachStatus = random.nextBoolean();
        int calls = 0;
        for (int step = 0; calls + CALLS_OF_A_STEP <= CALLS; step++) {
            int name = draw.name(step);
            if (NAMES[name].equals("chore") && draw.enoughChores(model)) {
                continue;
            }
            long[] a = draw.arguments(name, model);
            long got = callHouse(house, name, a);
            long want = model.call(NAMES[name], a);
            calls++;
            compare(run, step, name, a, "", got, want);
            if (eachStatus || random.nextInt(8) == 0) {
                compare(run, step, name, a, "status() behind ", house.status(), model.status);
                calls++;
            }
            if (NAMES[name].equals("price") || random.nextInt(40) == 0) {
                compare(run, step, name, a, "upper() behind ", house.upper(), model.upper);
                compare(run, step, name, a, "lower() behind ", house.lower(), model.lower);
                calls += 2;
            }
        }
    }

    private static void compare(int run, int step, int name, long[] a, String ahead, long got, long want) {
        if (got != want) {
            wrong++;
            if (wrong <= 20) {
                System.out.println("run " + run + ", step " + step + ": " + ahead + NAMES[name] + Arrays.toString(a)
                    + " answered " + got + ", due is " + want);
            }
        }
    }

    private static long bit(boolean b) {
        return b ? 1 : 0;
    }

    private static long callHouse(ChoreHouse x, int name, long[] l) {
        int[] a = new int[l.length];
        for (int i = 0; i < l.length; i++) {
            a[i] = (int) l[i];
        }
        switch (NAMES[name]) {
            case "tray": return bit(x.tray(a[0], a[1], a[2]));
            case "write": return bit(x.write(a[0], a[1], l[2]));
            case "read": return x.read(a[0], a[1]);
            case "pour": return bit(x.pour(a[0], a[1], a[2], a[3], a[4]));
            case "person": return x.person();
            case "stay": return x.stay(a[0], a[1], a[2], a[3]);
            case "strike": return bit(x.strike(a[0], a[1]));
            case "there": return x.there(a[0], a[1], a[2]);
            case "let": return bit(x.let(a[0], a[1]));
            case "value": return bit(x.value(a[0], a[1], a[2]));
            case "room": return x.room(a[0]);
            case "price": return bit(x.price(a[0]));
            case "chore": return x.chore();
            case "mind": return bit(x.mind(a[0], a[1], a[2]));
            case "turns": return bit(x.turns(a[0], a[1]));
            case "whose": return x.whose(a[0]);
            case "burden": return x.burden(a[0]);
            case "envies": return x.envies(a[0], a[1]);
            case "swap": return x.swap();
            case "take": return bit(x.take(a[0], a[1]));
            case "paid": return bit(x.paid(a[0], a[1], a[2]));
            case "balance": return x.balance(a[0]);
            case "fewest": return x.fewest();
            case "plan": return x.plan(a[0], a[1]);
            case "settle": return bit(x.settle());
            case "part": return bit(x.part(a[0], a[1], a[2]));
            case "bill": return x.bill(a[0], a[1], a[2], a[3], a[4]);
            case "points": return bit(x.points(a[0], a[1]));
            case "hold": return bit(x.hold(a[0]));
            default: return x.has(a[0]);
        }
    }

    /** Draws calls and arguments: mostly ones that can be, near the edges, now and then far off. */
    private static final class Draw {
        private static final int[] FAR = {Integer.MIN_VALUE, Integer.MAX_VALUE, -1, -2, 1 << 30, 1000};

        private final Random random;
        private final int mostPeople;
        private final int mostChores;
        private final int wideness;
        private final List<Integer> likely = new ArrayList<>();

        Draw(Random random, int run) {
            this.random = random;
            mostPeople = 1 + random.nextInt(10);
            mostChores = 1 + random.nextInt(24);
            // With small numbers there are more ties.
            wideness = new int[] {2, 4, 10, 1000}[random.nextInt(4)];
            int[][] groups = {{0, 1, 1, 2, 3, 3, 25, 25}, {5, 5, 6, 7, 7, 26, 26, 26}, {8, 9, 9, 9, 9, 9, 9, 10, 10, 11, 11},
                {12, 13, 13, 13, 13, 14, 15, 15, 16, 17, 18, 18, 19, 19}, {20, 20, 20, 21, 22, 23, 23, 23, 23, 23}, {27, 28, 29}};
            for (int i = 0; i < NAMES.length; i++) {
                if (i != 24) {
                    likely.add(i);
                }
            }
            for (int i = 0; i < 12; i++) {
                for (int name : groups[run % groups.length]) {
                    likely.add(name);
                }
            }
            likely.add(24);
        }

        int name(int step) {
            if (step < mostPeople) {
                return 4;
            }
            int name = likely.get(random.nextInt(likely.size()));
            return name == 4 && random.nextInt(4) != 0 ? 29 : name;
        }

        /** Few CHORES in some runs, so that they change hands more often. */
        boolean enoughChores(Model m) {
            return m.owner.size() >= mostChores && random.nextInt(30) != 0;
        }

        private long near(int least, int most) {
            int kind = random.nextInt(40);
            if (kind == 0) {
                return least - 1;
            }
            if (kind == 1) {
                return most + 1L;
            }
            if (kind == 2) {
                return FAR[random.nextInt(FAR.length)];
            }
            if (kind == 3) {
                return least;
            }
            if (kind == 4 || most < least) {
                return most;
            }
            return least + random.nextInt(most - least + 1);
        }

        /** Of a range, mostly a small part of it. */
        private long few(int least, int most) {
            if (random.nextInt(12) == 0) {
                return near(least, most);
            }
            return least + random.nextInt(Math.min(wideness, most - least + 1));
        }

        private long number() {
            switch (random.nextInt(5)) {
                case 0: return random.nextLong();
                case 1: return random.nextInt(1_000_002) - 1;
                case 2: return random.nextInt(40);
                default: return random.nextInt(4);
            }
        }

        long[] arguments(int name, Model m) {
            int lastPerson = m.people - 1;
            int lastChore = m.owner.size() - 1;
            int lastRoom = m.rooms - 1;
            switch (NAMES[name]) {
                case "tray": return new long[] {near(0, 3), near(0, 3), random.nextInt(3) == 0 ? near(0, 40) : few(0, 40)};
                case "write": return new long[] {near(0, 3), few(0, 39), number()};
                case "read": return new long[] {near(0, 3), few(0, 39)};
                case "pour": return new long[] {near(0, 3), few(0, 10), near(0, 3), few(0, 10), few(0, 10)};
                case "stay": return new long[] {near(0, lastPerson), day(), day(), day()};
                case "strike": return new long[] {near(0, m.stays.size() - 1), day()};
                case "there": return new long[] {near(0, lastPerson), day(), day()};
                case "let": return new long[] {near(1, Math.min(6, m.people)), near(0, 100000)};
                case "value": return new long[] {near(0, lastRoom), near(0, lastRoom), few(0, 100000)};
                case "room": return new long[] {near(0, lastRoom)};
                case "price": return new long[] {near(0, lastRoom)};
                case "mind": return new long[] {near(0, lastPerson), near(0, lastChore), few(0, 1000)};
                case "turns": return new long[] {near(1, m.people), near(0, lastPerson)};
                case "whose": return new long[] {near(0, lastChore)};
                case "burden": return new long[] {near(0, lastPerson)};
                case "envies": return new long[] {near(0, lastPerson), near(0, lastPerson)};
                case "take": return new long[] {near(0, lastChore), near(-1, lastPerson)};
                case "paid": return new long[] {near(0, lastPerson), few(1, 1_000_000), set(m.people)};
                case "balance": return new long[] {near(0, lastPerson)};
                case "plan": return new long[] {near(0, 5), near(0, 2)};
                case "part": return new long[] {near(0, 3), few(1, 40), near(0, 1_000_000_000)};
                case "bill": return new long[] {near(0, lastPerson), near(0, 1_000_000_000), day(), day(), day()};
                case "points": return new long[] {near(0, lastPerson), few(0, 1_000_000)};
                case "hold": return new long[] {near(1, 1_000_000)};
                case "has": return new long[] {near(0, lastPerson)};
                default: return new long[0];
            }
        }

        private long set(int people) {
            if (people > 0 && random.nextInt(2) == 0) {
                return 1L << random.nextInt(people);
            }
            return near(1, (1 << people) - 1);
        }

        private long day() {
            return random.nextInt(6) == 0 ? near(0, 9999) : random.nextInt(30);
        }
    }

    /** The document by brute force. */
    private static final class Model {
        int status = 0;
        long upper = 0;
        long lower = 1;
        int people = 0;
        int rooms = 0;
        int rent = 0;
        int[][] values = new int[6][6];
        final List<int[]> stays = new ArrayList<>();
        final List<Integer> owner = new ArrayList<>();
        final int[][] minds = new int[10][24];
        final List<int[]> payments = new ArrayList<>();
        final int[] points = new int[10];
        final long[][] trays = new long[4][];
        final int[] sorts = new int[4];

        Model() {
            for (int[] row : minds) {
                Arrays.fill(row, 10);
            }
        }

        long call(String name, long[] l) {
            int[] a = new int[6];
            for (int i = 0; i < l.length; i++) {
                a[i] = (int) l[i];
            }
            status = 0;
            switch (name) {
                case "tray": return bit(tray(a[0], a[1], a[2]));
                case "write": return bit(write(a[0], a[1], l[2]));
                case "read": return read(a[0], a[1]);
                case "pour": return bit(pour(a[0], a[1], a[2], a[3], a[4]));
                case "person": return people >= 10 ? no(7) : people++;
                case "stay": return stay(a[0], a[1], a[2], a[3]);
                case "strike": return bit(strike(a[0], a[1]));
                case "there": return there(a[0], a[1], a[2]);
                case "let": return bit(let(a[0], a[1]));
                case "value": return bit(value(a[0], a[1], a[2]));
                case "room": return out(a[0], rooms) ? no(2) : best()[a[0]];
                case "price": return bit(price(a[0]));
                case "chore": return chore();
                case "mind": return bit(mind(a[0], a[1], a[2]));
                case "turns": return bit(turns(a[0], a[1]));
                case "whose": return whose(a[0]);
                case "burden": return out(a[0], people) ? no(2) : sumOf(a[0], a[0]);
                case "envies": return envies(a[0], a[1]);
                case "swap": return swap();
                case "take": return bit(take(a[0], a[1]));
                case "paid": return bit(paid(a[0], a[1], a[2]));
                case "balance": return out(a[0], people) ? no(2) : balances()[a[0]];
                case "fewest": return plan().size();
                case "plan": return planned(a[0], a[1]);
                case "settle": payments.clear(); return 1;
                case "part": return bit(part(a[0], a[1], a[2]));
                case "bill": return bill(a[0], a[1], a[2], a[3], a[4]);
                case "points": return bit(setPoints(a[0], a[1]));
                case "hold": return bit(hold(a[0]));
                default: return out(a[0], people) ? no(2) : points[a[0]];
            }
        }

        private int no(int why) {
            status = why;
            return -1;
        }

        private boolean not(int why) {
            status = why;
            return false;
        }

        private static boolean out(int number, int many) {
            return number < 0 || number >= many;
        }

        private static boolean noDay(int day) {
            return day < 0 || day > 9999;
        }

        private boolean tray(int tray, int sort, int many) {
            if (out(tray, 4) || out(sort, 4)) return not(1);
            if (many > 40) return not(5);
            if (many < 0) return not(6);
            trays[tray] = new long[many];
            sorts[tray] = sort;
            return true;
        }

        private static long cut(long v, int sort) {
            int bits = 64 - (8 << sort);
            return v << bits >> bits;
        }

        private boolean write(int tray, int place, long v) {
            read(tray, place);
            if (status != 0) return false;
            trays[tray][place] = cut(v, sorts[tray]);
            return true;
        }

        private long read(int tray, int place) {
            if (out(tray, 4)) return no(1);
            if (trays[tray] == null) return no(3);
            if (out(place, trays[tray].length)) return no(4);
            return trays[tray][place];
        }

        private boolean pour(int tray, int i, int to, int j, int many) {
            if (out(tray, 4) || out(to, 4)) return not(1);
            if (trays[tray] == null || trays[to] == null) return not(3);
            if (sorts[tray] != sorts[to]) return not(11);
            if (many < 0) return not(6);
            if (i < 0 || j < 0 || (long) i + many > trays[tray].length || (long) j + many > trays[to].length) return not(4);
            long[] were = trays[tray].clone();
            for (int k = 0; k < many; k++) {
                trays[to][j + k] = were[i + k];
            }
            return true;
        }

        private int stay(int person, int from, int to, int told) {
            if (out(person, people)) return no(2);
            if (noDay(from) || noDay(to) || noDay(told) || from > to) return no(5);
            if (stays.size() == 60) return no(7);
            stays.add(new int[] {person, from, to, told, -1});
            return stays.size() - 1;
        }

        private boolean strike(int stay, int day) {
            if (out(stay, stays.size())) return not(2);
            if (noDay(day)) return not(5);
            if (stays.get(stay)[4] >= 0) return not(8);
            stays.get(stay)[4] = day;
            return true;
        }

        private boolean isThere(int person, int day, int known) {
            for (int[] s : stays) {
                boolean struck = s[4] >= 0 && s[4] <= known;
                if (s[0] == person && s[1] <= day && day <= s[2] && s[3] <= known && !struck) return true;
            }
            return false;
        }

        private long there(int person, int day, int known) {
            if (out(person, people)) return no(2);
            if (noDay(day) || noDay(known)) return no(5);
            return bit(isThere(person, day, known));
        }

        private boolean let(int many, int money) {
            if (many < 1 || many > 6 || money < 0 || money > 100000 || many > people) return not(5);
            rooms = many;
            rent = money;
            values = new int[6][6];
            return true;
        }

        private boolean value(int person, int room, int value) {
            if (out(person, rooms) || out(room, rooms)) return not(2);
            if (value < 0 || value > 100000) return not(5);
            values[person][room] = value;
            return true;
        }

        private int[] best() {
            int[] best = new int[rooms];
            tryRooms(new int[rooms], 0, 0, new int[] {-1}, best);
            return best;
        }

        /** In the order by PEOPLE and ROOMS, so that the first of like ones stays. */
        private void tryRooms(int[] now, int person, int sum, int[] most, int[] best) {
            if (person == rooms) {
                if (sum > most[0]) {
                    most[0] = sum;
                    System.arraycopy(now, 0, best, 0, rooms);
                }
                return;
            }
            for (int r = 0; r < rooms; r++) {
                boolean free = true;
                for (int p = 0; p < person; p++) {
                    free = free && now[p] != r;
                }
                if (free) {
                    now[person] = r;
                    tryRooms(now, person + 1, sum + values[person][r], most, best);
                }
            }
        }

        private boolean price(int room) {
            if (out(room, rooms)) return not(2);
            int[] has = new int[rooms];
            int[] best = best();
            for (int p = 0; p < rooms; p++) {
                has[best[p]] = p;
            }
            long sum = 0;
            long[] over = new long[rooms];
            for (int r = 0; r < rooms; r++) {
                over[r] = leastWay(0, r, 1, has);
                sum += over[r];
            }
            checkNoEnvy(over, best);
            BigInteger up = BigInteger.valueOf(rent - sum + rooms * over[room]);
            BigInteger low = BigInteger.valueOf(rooms);
            BigInteger common = up.gcd(low);
            upper = up.divide(common).longValue();
            lower = low.divide(common).longValue();
            return true;
        }

        /** All ways without a ROOM twice: how much dearer a ROOM can be than another one. */
        private long leastWay(int from, int to, int seen, int[] has) {
            if (from == to) return 0;
            long least = Long.MAX_VALUE;
            for (int r = 0; r < rooms; r++) {
                if ((seen & 1 << r) == 0) {
                    long rest = leastWay(r, to, seen | 1 << r, has);
                    int p = has[r];
                    if (rest != Long.MAX_VALUE) {
                        least = Math.min(least, values[p][r] - values[p][from] + rest);
                    }
                }
            }
            return least;
        }

        private void checkNoEnvy(long[] over, int[] best) {
            for (int p = 0; p < rooms; p++) {
                for (int r = 0; r < rooms; r++) {
                    if (values[p][best[p]] - over[best[p]] < values[p][r] - over[r]) {
                        throw new IllegalStateException("the model's own prices are envied");
                    }
                }
            }
        }

        private int chore() {
            if (owner.size() == 24) return no(7);
            owner.add(-1);
            return owner.size() - 1;
        }

        private boolean mind(int person, int chore, int much) {
            if (out(person, people) || out(chore, owner.size())) return not(2);
            if (much < 0 || much > 1000) return not(5);
            minds[person][chore] = much;
            return true;
        }

        private boolean turns(int m, int from) {
            if (out(from, people)) return not(2);
            if (m < 1 || m > people) return not(5);
            if (from >= m) return not(2);
            List<Integer> left = new ArrayList<>();
            for (int c = 0; c < owner.size(); c++) {
                left.add(c);
            }
            for (int turn = 0; !left.isEmpty(); turn++) {
                int person = (from + turn) % m;
                int at = 0;
                for (int i = 1; i < left.size(); i++) {
                    if (minds[person][left.get(i)] < minds[person][left.get(at)]) at = i;
                }
                owner.set(left.remove(at), person);
            }
            return true;
        }

        private int whose(int chore) {
            if (out(chore, owner.size())) return no(2);
            return owner.get(chore) < 0 ? no(10) : owner.get(chore);
        }

        private int sumOf(int person, int having) {
            int sum = 0;
            for (int c = 0; c < owner.size(); c++) {
                if (owner.get(c) == having) sum += minds[person][c];
            }
            return sum;
        }

        private int envies(int a, int b) {
            if (out(a, people) || out(b, people) || a == b) return no(2);
            int own = sumOf(a, a);
            int other = sumOf(a, b);
            if (own <= other) return 0;
            int answer = 2;
            for (int c = 0; c < owner.size(); c++) {
                if (owner.get(c) == a && own - minds[a][c] <= other) answer = 1;
            }
            return answer;
        }

        private int swap() {
            for (int many = 2; many <= people; many++) {
                int[] ring = new int[many];
                if (findRing(ring, 0, 0)) {
                    int first = owner.get(ring[0]);
                    for (int i = 0; i < many; i++) {
                        owner.set(ring[i], i + 1 < many ? owner.get(ring[i + 1]) : first);
                    }
                    return many;
                }
            }
            return no(9);
        }

        /** In the order by CHORES given, each one behind the first greater than it. */
        private boolean findRing(int[] ring, int at, int seen) {
            if (at == ring.length) return gains(ring[at - 1], ring[0]);
            for (int c = at == 0 ? 0 : ring[0] + 1; c < owner.size(); c++) {
                int p = owner.get(c);
                if (p >= 0 && (seen & 1 << p) == 0 && (at == 0 || gains(ring[at - 1], c))) {
                    ring[at] = c;
                    if (findRing(ring, at + 1, seen | 1 << p)) return true;
                }
            }
            return false;
        }

        private boolean gains(int comes, int goes) {
            int p = owner.get(goes);
            return minds[p][comes] < minds[p][goes];
        }

        private boolean take(int chore, int person) {
            if (out(chore, owner.size()) || (person != -1 && out(person, people))) return not(2);
            owner.set(chore, person);
            return true;
        }

        private boolean paid(int person, int amount, int set) {
            if (out(person, people)) return not(2);
            if (amount < 1 || amount > 1000000 || set < 1 || set >= 1 << people) return not(5);
            if (payments.size() == 200) return not(7);
            payments.add(new int[] {person, amount, set});
            return true;
        }

        private long[] balances() {
            long[] sums = new long[10];
            for (int[] p : payments) {
                sums[p[0]] += p[1];
                int penny = 0;
                while (penny < p[1] % Integer.bitCount(p[2])) {
                    for (int i = 0; i < 10 && penny < p[1] % Integer.bitCount(p[2]); i++) {
                        if ((p[2] & 1 << i) != 0) {
                            sums[i]--;
                            penny++;
                        }
                    }
                }
                for (int i = 0; i < 10; i++) {
                    if ((p[2] & 1 << i) != 0) sums[i] -= p[1] / Integer.bitCount(p[2]);
                }
            }
            return sums;
        }

        private List<long[]> plan() {
            long[] sums = balances();
            int owing = 0;
            for (int p = 0; p < 10; p++) {
                if (sums[p] != 0) owing |= 1 << p;
            }
            List<long[]> payments = new ArrayList<>();
            for (int heap : heaps(owing, sums)) {
                pay(heap, sums, payments);
            }
            return payments;
        }

        /** Of all ways to part a set in HEAPS the longest, the first of like ones. */
        private List<Integer> heaps(int set, long[] sums) {
            List<Integer> longest = new ArrayList<>();
            for (int heap = 1; heap <= set; heap++) {
                long sum = 0;
                for (int p = 0; p < 10; p++) {
                    if ((heap & 1 << p) != 0) sum += sums[p];
                }
                if ((heap & set) == heap && (heap & Integer.lowestOneBit(set)) != 0 && sum == 0) {
                    List<Integer> others = heaps(set & ~heap, sums);
                    if (others.size() + 1 > longest.size()) {
                        longest = new ArrayList<>();
                        longest.add(heap);
                        longest.addAll(others);
                    }
                }
            }
            return longest;
        }

        private static void pay(int heap, long[] sums, List<long[]> payments) {
            for (int from = 0; from < 10; from++) {
                for (int to = 0; to < 10; to++) {
                    boolean both = (heap & 1 << from) != 0 && (heap & 1 << to) != 0;
                    if (both && sums[from] < 0 && sums[to] > 0) {
                        long money = Math.min(-sums[from], sums[to]);
                        sums[from] += money;
                        sums[to] -= money;
                        payments.add(new long[] {from, to, money});
                    }
                }
            }
        }

        private long planned(int k, int what) {
            List<long[]> payments = plan();
            if (out(k, payments.size())) return no(9);
            if (out(what, 3)) return no(5);
            return payments.get(k)[what];
        }

        /** With BigInteger; null if all weights are 0. */
        private static long[] parts(long[] weights, int many, long amount) {
            BigInteger all = BigInteger.ZERO;
            for (int i = 0; i < many; i++) {
                all = all.add(BigInteger.valueOf(weights[i]));
            }
            if (all.signum() == 0) return null;
            long[] parts = new long[many];
            List<Integer> order = new ArrayList<>();
            BigInteger[] rests = new BigInteger[many];
            long left = amount;
            for (int i = 0; i < many; i++) {
                BigInteger[] both = BigInteger.valueOf(amount).multiply(BigInteger.valueOf(weights[i])).divideAndRemainder(all);
                parts[i] = both[0].longValue();
                rests[i] = both[1];
                left -= parts[i];
                order.add(i);
            }
            order.sort((i, j) -> rests[i].equals(rests[j]) ? i - j : rests[j].compareTo(rests[i]));
            for (int i = 0; i < left; i++) {
                parts[order.get(i)]++;
            }
            return parts;
        }

        private boolean part(int tray, int many, int amount) {
            if (out(tray, 4)) return not(1);
            if (trays[tray] == null) return not(3);
            if (many < 1 || many > 40 || amount < 0 || amount > 1000000000) return not(5);
            if (many > trays[tray].length) return not(4);
            for (int i = 0; i < many; i++) {
                if (trays[tray][i] < 0 || trays[tray][i] > 1000000) return not(5);
            }
            long[] parts = parts(trays[tray], many, amount);
            if (parts == null) return not(5);
            for (int i = 0; i < many; i++) {
                trays[tray][i] = cut(parts[i], sorts[tray]);
            }
            return true;
        }

        private long bill(int person, int amount, int from, int to, int known) {
            if (out(person, people)) return no(2);
            if (amount < 0 || amount > 1000000000 || noDay(from) || noDay(to) || noDay(known) || from > to) return no(5);
            long[] days = new long[people];
            for (int p = 0; p < people; p++) {
                for (int day = from; day <= to; day++) {
                    days[p] += bit(isThere(p, day, known));
                }
            }
            long[] parts = parts(days, people, amount);
            return parts == null ? no(9) : parts[person];
        }

        private boolean setPoints(int person, int many) {
            if (out(person, people)) return not(2);
            if (many < 0 || many > 1000000) return not(5);
            points[person] = many;
            return true;
        }

        private boolean hold(int sum) {
            if (sum < 1 || sum > 1000000) return not(5);
            long[] weights = new long[10];
            for (int p = 0; p < people; p++) {
                weights[p] = points[p];
            }
            long[] parts = parts(weights, people, sum);
            if (parts == null) return not(9);
            for (int p = 0; p < people; p++) {
                points[p] = (int) parts[p];
            }
            return true;
        }
    }
}
