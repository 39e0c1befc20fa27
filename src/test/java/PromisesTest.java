/** Promises 1 to 34 of the document, one method each: ordinary inputs, edges, wrong inputs. */
public final class PromisesTest {
    private static final int LEAST = Integer.MIN_VALUE;
    private static final int MOST = Integer.MAX_VALUE;

    private static int wrong = 0;
    private static String promise = "";

    public static void main(String[] args) {
        newObject();
        status();
        tray();
        write();
        read();
        pour();
        person();
        stay();
        strike();
        there();
        let();
        value();
        room();
        price();
        upperAndLower();
        chore();
        mind();
        turns();
        whose();
        burden();
        envies();
        swap();
        swapOrder();
        take();
        paid();
        balance();
        fewest();
        plan();
        settle();
        part();
        bill();
        points();
        hold();
        has();
        System.out.println(wrong == 0 ? "all promises hold" : wrong + " answers are not as due");
        if (wrong != 0) {
            System.exit(1);
        }
    }

    private static void is(String what, long got, long want) {
        if (got != want) {
            wrong++;
            System.out.println("promise " + promise + ": " + what + " answered " + got + ", due is " + want);
        }
    }

    private static void done(ChoreHouse x, String what, boolean got) {
        is(what, got ? 1 : 0, 1);
        is("status() behind " + what, x.status(), 0);
    }

    private static void gives(ChoreHouse x, String what, long got, long want) {
        is(what, got, want);
        is("status() behind " + what, x.status(), 0);
    }

    private static void refused(ChoreHouse x, String what, boolean got, int status) {
        is(what, got ? 1 : 0, 0);
        is("status() behind " + what, x.status(), status);
    }

    private static void refused(ChoreHouse x, String what, long got, int status) {
        is(what, got, -1);
        is("status() behind " + what, x.status(), status);
    }

    private static ChoreHouse houseOf(int people) {
        ChoreHouse x = new ChoreHouse();
        for (int p = 0; p < people; p++) {
            x.person();
        }
        return x;
    }

    private static ChoreHouse houseOf(int people, int chores) {
        ChoreHouse x = houseOf(people);
        for (int c = 0; c < chores; c++) {
            x.chore();
        }
        return x;
    }

    private static void row(ChoreHouse x, int tray, int sort, long... numbers) {
        x.tray(tray, sort, numbers.length);
        for (int i = 0; i < numbers.length; i++) {
            x.write(tray, i, numbers[i]);
        }
    }

    private static void rowIs(ChoreHouse x, String what, int tray, long... numbers) {
        for (int i = 0; i < numbers.length; i++) {
            gives(x, what + ", place " + i, x.read(tray, i), numbers[i]);
        }
        refused(x, what + ", the place behind", x.read(tray, numbers.length), 4);
    }

    private static void fraction(ChoreHouse x, int room, long upper, long lower) {
        done(x, "price(" + room + ")", x.price(room));
        is("upper() of room " + room, x.upper(), upper);
        is("lower() of room " + room, x.lower(), lower);
    }

    private static void values(ChoreHouse x, int[]... values) {
        for (int p = 0; p < values.length; p++) {
            for (int r = 0; r < values.length; r++) {
                done(x, "value", x.value(p, r, values[p][r]));
            }
        }
    }

    private static void minds(ChoreHouse x, int[]... minds) {
        for (int p = 0; p < minds.length; p++) {
            for (int c = 0; c < minds[p].length; c++) {
                done(x, "mind", x.mind(p, c, minds[p][c]));
            }
        }
    }

    private static void owners(ChoreHouse x, int... owners) {
        for (int c = 0; c < owners.length; c++) {
            is("whose(" + c + ")", x.whose(c), owners[c]);
        }
    }

    private static void balances(ChoreHouse x, long... balances) {
        for (int p = 0; p < balances.length; p++) {
            gives(x, "balance(" + p + ")", x.balance(p), balances[p]);
        }
    }

    private static void payment(ChoreHouse x, int k, long payer, long taker, long money) {
        gives(x, "plan(" + k + ", 0)", x.plan(k, 0), payer);
        gives(x, "plan(" + k + ", 1)", x.plan(k, 1), taker);
        gives(x, "plan(" + k + ", 2)", x.plan(k, 2), money);
    }

    private static void newObject() {
        promise = "1";
        ChoreHouse x = new ChoreHouse();
        is("NONE", ChoreHouse.NONE, -1);
        is("status()", x.status(), 0);
        is("upper()", x.upper(), 0);
        is("lower()", x.lower(), 1);
        for (int t = 0; t < 4; t++) {
            refused(x, "read of tray " + t, x.read(t, 0), 3);
        }
        refused(x, "balance(0)", x.balance(0), 2);
        refused(x, "room(0)", x.room(0), 2);
        refused(x, "price(0)", x.price(0), 2);
        refused(x, "whose(0)", x.whose(0), 2);
        refused(x, "strike(0, 0)", x.strike(0, 0), 2);
        gives(x, "fewest()", x.fewest(), 0);
    }

    private static void status() {
        promise = "2";
        ChoreHouse x = new ChoreHouse();
        x.has(0);
        is("status() of has", x.status(), 2);
        is("status() again", x.status(), 2);
        x.upper();
        x.lower();
        is("status() behind upper, lower", x.status(), 2);
        x.person();
        is("status() of person", x.status(), 0);
        x.swap();
        is("status() of swap", x.status(), 9);
        x.fewest();
        is("status() of fewest", x.status(), 0);
        x.has(1);
        x.settle();
        is("status() of settle", x.status(), 0);
    }

    private static void tray() {
        promise = "3";
        ChoreHouse x = new ChoreHouse();
        done(x, "tray(0, 0, 40)", x.tray(0, 0, 40));
        gives(x, "read(0, 39)", x.read(0, 39), 0);
        done(x, "write(0, 39, 5)", x.write(0, 39, 5));
        refused(x, "tray(0, 0, 41)", x.tray(0, 0, 41), 5);
        refused(x, "tray(0, 0, most)", x.tray(0, 0, MOST), 5);
        refused(x, "tray(0, 0, -1)", x.tray(0, 0, -1), 6);
        refused(x, "tray(0, 0, least)", x.tray(0, 0, LEAST), 6);
        refused(x, "tray(4, 0, 1)", x.tray(4, 0, 1), 1);
        refused(x, "tray(-1, 0, 41)", x.tray(-1, 0, 41), 1);
        refused(x, "tray(0, 4, -1)", x.tray(0, 4, -1), 1);
        refused(x, "tray(0, -1, 1)", x.tray(0, -1, 1), 1);
        refused(x, "tray(most, most, most)", x.tray(MOST, MOST, MOST), 1);
        gives(x, "read(0, 39), unchanged", x.read(0, 39), 5);
        done(x, "tray(0, 0, 40) anew", x.tray(0, 0, 40));
        gives(x, "read(0, 39), anew", x.read(0, 39), 0);
        done(x, "tray(3, 3, 0)", x.tray(3, 3, 0));
        refused(x, "read(3, 0) of no places", x.read(3, 0), 4);
        done(x, "tray(0, 3, 2), shorter", x.tray(0, 3, 2));
        refused(x, "read(0, 2)", x.read(0, 2), 4);
        refused(x, "read(1, 0)", x.read(1, 0), 3);
    }

    private static void write() {
        promise = "4";
        ChoreHouse x = new ChoreHouse();
        for (int sort = 0; sort < 4; sort++) {
            x.tray(sort, sort, 3);
        }
        long[] given = {127, 128, -129, 32767, 32768, -32769, 2147483647L, 2147483648L, -2147483649L, Long.MAX_VALUE,
            Long.MIN_VALUE, 0x0123456789abcdefL, -1, 0};
        for (long v : given) {
            long[] due = {(byte) v, (short) v, (int) v, v};
            for (int sort = 0; sort < 4; sort++) {
                done(x, "write(" + sort + ", 1, " + v + ")", x.write(sort, 1, v));
                gives(x, "read of " + v + " in sort " + sort, x.read(sort, 1), due[sort]);
            }
        }
        rowIs(x, "the neighbours", 0, 0, 0, 0);
        refused(x, "write(0, 3, 1)", x.write(0, 3, 1), 4);
        refused(x, "write(0, -1, 1)", x.write(0, -1, 1), 4);
        refused(x, "write(0, least, 1)", x.write(0, LEAST, 1), 4);
        refused(x, "write(4, 0, 1)", x.write(4, 0, 1), 1);
        refused(x, "write(-1, 9, 1)", x.write(-1, 9, 1), 1);
        ChoreHouse y = new ChoreHouse();
        refused(y, "write(2, 99, 1)", y.write(2, 99, 1), 3);
    }

    private static void read() {
        promise = "5";
        ChoreHouse x = new ChoreHouse();
        row(x, 1, 1, 7, -1, 300);
        rowIs(x, "the row", 1, 7, -1, 300);
        refused(x, "read(1, -1)", x.read(1, -1), 4);
        refused(x, "read(1, 40)", x.read(1, 40), 4);
        refused(x, "read(1, most)", x.read(1, MOST), 4);
        refused(x, "read(2, 0)", x.read(2, 0), 3);
        refused(x, "read(2, -1)", x.read(2, -1), 3);
        refused(x, "read(4, 0)", x.read(4, 0), 1);
        refused(x, "read(-1, 0)", x.read(-1, 0), 1);
    }

    private static void pour() {
        promise = "6";
        ChoreHouse x = new ChoreHouse();
        row(x, 0, 2, 1, 2, 3, 4, 5);
        done(x, "pour to the right", x.pour(0, 0, 0, 1, 4));
        rowIs(x, "to the right", 0, 1, 1, 2, 3, 4);
        done(x, "pour to the left", x.pour(0, 1, 0, 0, 4));
        rowIs(x, "to the left", 0, 1, 2, 3, 4, 4);
        row(x, 1, 2, 9, 8, 7);
        done(x, "pour to another", x.pour(0, 3, 1, 1, 2));
        rowIs(x, "another", 1, 9, 4, 4);
        rowIs(x, "the first stays", 0, 1, 2, 3, 4, 4);
        done(x, "pour of none at the end", x.pour(0, 5, 1, 3, 0));
        done(x, "pour of all", x.pour(1, 0, 0, 2, 3));
        rowIs(x, "all", 0, 1, 2, 9, 4, 4);
        x.tray(2, 1, 5);
        refused(x, "unlike sorts", x.pour(0, -1, 2, 99, -1), 11);
        refused(x, "no such tray", x.pour(4, 0, 3, 0, 1), 1);
        refused(x, "no such tray to", x.pour(3, 0, -1, 0, 1), 1);
        refused(x, "missing", x.pour(3, 0, 0, 0, -1), 3);
        refused(x, "missing to", x.pour(0, 0, 3, 0, -1), 3);
        refused(x, "missing ahead of unlike", x.pour(2, 0, 3, 0, 1), 3);
        refused(x, "below 0", x.pour(0, -1, 1, 0, -1), 6);
        refused(x, "least", x.pour(0, 0, 1, 0, LEAST), 6);
        refused(x, "place below 0", x.pour(0, -1, 1, 0, 1), 4);
        refused(x, "place to below 0", x.pour(0, 0, 1, -1, 1), 4);
        refused(x, "too many from", x.pour(1, 1, 0, 0, 3), 4);
        refused(x, "too many to", x.pour(0, 0, 1, 1, 3), 4);
        refused(x, "most from most", x.pour(0, MOST, 1, MOST, MOST), 4);
        refused(x, "most of them", x.pour(0, 1, 1, 0, MOST), 4);
        refused(x, "none behind the end", x.pour(0, 6, 1, 0, 0), 4);
        rowIs(x, "unchanged", 0, 1, 2, 9, 4, 4);
        rowIs(x, "unchanged too", 1, 9, 4, 4);
    }

    private static void person() {
        promise = "7";
        ChoreHouse x = new ChoreHouse();
        for (int p = 0; p < 10; p++) {
            gives(x, "person()", x.person(), p);
        }
        refused(x, "person() the eleventh", x.person(), 7);
        refused(x, "person() once more", x.person(), 7);
        gives(x, "has(9)", x.has(9), 0);
        refused(x, "has(10)", x.has(10), 2);
    }

    private static void stay() {
        promise = "8";
        ChoreHouse x = houseOf(2);
        gives(x, "stay(0, 0, 9999, 9999)", x.stay(0, 0, 9999, 9999), 0);
        gives(x, "stay(1, 5, 5, 0)", x.stay(1, 5, 5, 0), 1);
        refused(x, "stay(2, ..)", x.stay(2, 1, 0, -1), 2);
        refused(x, "stay(-1, ..)", x.stay(-1, 0, 0, 0), 2);
        refused(x, "from above to", x.stay(0, 6, 5, 0), 5);
        refused(x, "from below 0", x.stay(0, -1, 5, 0), 5);
        refused(x, "to above all", x.stay(0, 0, 10000, 0), 5);
        refused(x, "told below 0", x.stay(0, 0, 5, -1), 5);
        refused(x, "told above all", x.stay(0, 0, 5, 10000), 5);
        refused(x, "all far off", x.stay(0, LEAST, MOST, MOST), 5);
        for (int s = 2; s < 60; s++) {
            gives(x, "stay, more", x.stay(0, s, s, 0), s);
        }
        refused(x, "stay, one too many", x.stay(0, 0, 0, 0), 7);
        refused(x, "stay, 5 ahead of 7", x.stay(0, 1, 0, 0), 5);
        refused(x, "stay, 2 ahead of 7", x.stay(2, 0, 0, 0), 2);
        done(x, "strike(59, 0)", x.strike(59, 0));
    }

    private static void strike() {
        promise = "9";
        ChoreHouse x = houseOf(1);
        x.stay(0, 0, 10, 3);
        x.stay(0, 0, 10, 3);
        refused(x, "strike(2, 0)", x.strike(2, -1), 2);
        refused(x, "strike(-1, 0)", x.strike(-1, 0), 2);
        refused(x, "strike(0, -1)", x.strike(0, -1), 5);
        refused(x, "strike(0, 10000)", x.strike(0, 10000), 5);
        done(x, "strike(0, 0)", x.strike(0, 0));
        refused(x, "strike(0, 10000) again", x.strike(0, 10000), 5);
        refused(x, "strike(0, 5) again", x.strike(0, 5), 8);
        done(x, "strike(1, 9999)", x.strike(1, 9999));
        refused(x, "strike(1, 9999) again", x.strike(1, 9999), 8);
        gives(x, "there(0, 5, 9998)", x.there(0, 5, 9998), 1);
        gives(x, "there(0, 5, 9999)", x.there(0, 5, 9999), 0);
    }

    private static void there() {
        promise = "10";
        ChoreHouse x = houseOf(2);
        x.stay(0, 10, 20, 15);
        gives(x, "the first day", x.there(0, 10, 15), 1);
        gives(x, "the last day", x.there(0, 20, 15), 1);
        gives(x, "the day ahead", x.there(0, 9, 15), 0);
        gives(x, "the day behind", x.there(0, 21, 15), 0);
        gives(x, "not told yet", x.there(0, 15, 14), 0);
        gives(x, "told long ago", x.there(0, 15, 9999), 1);
        gives(x, "another one", x.there(1, 15, 20), 0);
        x.strike(0, 30);
        gives(x, "not struck yet", x.there(0, 15, 29), 1);
        gives(x, "struck that day", x.there(0, 15, 30), 0);
        gives(x, "struck long ago", x.there(0, 15, 31), 0);
        x.stay(0, 15, 15, 30);
        gives(x, "another stay that day", x.there(0, 15, 30), 1);
        gives(x, "another stay, other day", x.there(0, 16, 30), 0);
        refused(x, "there(2, ..)", x.there(2, -1, 0), 2);
        refused(x, "there(-1, ..)", x.there(-1, 0, 0), 2);
        refused(x, "day below 0", x.there(0, -1, 0), 5);
        refused(x, "day above all", x.there(0, 10000, 0), 5);
        refused(x, "known below 0", x.there(0, 0, -1), 5);
        refused(x, "known above all", x.there(0, 0, 10000), 5);
        gives(x, "the last of all", x.there(0, 9999, 9999), 0);
    }

    private static void let() {
        promise = "11";
        ChoreHouse x = houseOf(7);
        done(x, "let(6, 100000)", x.let(6, 100000));
        gives(x, "room(5)", x.room(5), 5);
        fraction(x, 5, 50000, 3);
        x.value(0, 5, 9);
        refused(x, "let(7, 0)", x.let(7, 0), 5);
        refused(x, "let(0, 0)", x.let(0, 0), 5);
        refused(x, "let(-1, 0)", x.let(-1, 0), 5);
        refused(x, "let(1, -1)", x.let(1, -1), 5);
        refused(x, "let(1, 100001)", x.let(1, 100001), 5);
        refused(x, "let(most, least)", x.let(MOST, LEAST), 5);
        gives(x, "room(0), unchanged", x.room(0), 5);
        done(x, "let(1, 0)", x.let(1, 0));
        fraction(x, 0, 0, 1);
        refused(x, "room(1)", x.room(1), 2);
        done(x, "let(6, 12) anew", x.let(6, 12));
        gives(x, "room(0), all values 0", x.room(0), 0);
        ChoreHouse y = houseOf(2);
        refused(y, "let(3, 0) with two people", y.let(3, 0), 5);
        done(y, "let(2, 0) with two people", y.let(2, 0));
    }

    private static void value() {
        promise = "12";
        ChoreHouse x = houseOf(3);
        refused(x, "no letting", x.value(0, 0, 1), 2);
        x.let(2, 10);
        done(x, "value(1, 0, 100000)", x.value(1, 0, 100000));
        gives(x, "room(1)", x.room(1), 0);
        done(x, "value(1, 0, 0)", x.value(1, 0, 0));
        gives(x, "room(1), again", x.room(1), 1);
        refused(x, "value(2, 0, 1)", x.value(2, 0, 1), 2);
        refused(x, "value(0, 2, -1)", x.value(0, 2, -1), 2);
        refused(x, "value(-1, 0, 1)", x.value(-1, 0, 1), 2);
        refused(x, "value(0, -1, 1)", x.value(0, -1, 1), 2);
        refused(x, "value(1, 0, -1)", x.value(1, 0, -1), 5);
        refused(x, "value(1, 0, 100001)", x.value(1, 0, 100001), 5);
        refused(x, "value(1, 0, most)", x.value(1, 0, MOST), 5);
        gives(x, "room(1), unchanged", x.room(1), 1);
    }

    private static void room() {
        promise = "13";
        ChoreHouse x = houseOf(4);
        x.let(3, 0);
        values(x, new int[] {5, 5, 5}, new int[] {5, 5, 5}, new int[] {5, 5, 5});
        for (int p = 0; p < 3; p++) {
            gives(x, "room of like values", x.room(p), p);
        }
        // 9 + 1 + 1 is less than 8 + 8 + 1: the greedy choice is not BEST.
        values(x, new int[] {9, 8, 0}, new int[] {8, 1, 0}, new int[] {0, 0, 1});
        gives(x, "room(0)", x.room(0), 1);
        gives(x, "room(1)", x.room(1), 0);
        gives(x, "room(2)", x.room(2), 2);
        // Two of the best: 0 1 2 can't be, of 1 0 2 and 2 0 1 the first counts.
        values(x, new int[] {0, 4, 4}, new int[] {9, 0, 0}, new int[] {0, 3, 3});
        gives(x, "room(0) of two best", x.room(0), 1);
        gives(x, "room(1) of two best", x.room(1), 0);
        gives(x, "room(2) of two best", x.room(2), 2);
        refused(x, "room(3)", x.room(3), 2);
        refused(x, "room(-1)", x.room(-1), 2);
        refused(x, "room(most)", x.room(MOST), 2);
    }

    private static void price() {
        promise = "14";
        ChoreHouse x = houseOf(6);
        x.let(2, 0);
        values(x, new int[] {0, 100000}, new int[] {0, 0});
        // Room 1 dearest against room 0: the one who has it would change as soon as it costs 100,000 more.
        fraction(x, 0, -50000, 1);
        fraction(x, 1, 50000, 1);
        x.let(3, 100);
        values(x, new int[] {10, 0, 0}, new int[] {7, 9, 0}, new int[] {0, 6, 8});
        // Room 1 may be 2 dearer than room 0, room 2 may be 2 dearer than room 1: 4 in all, less than its own 8.
        fraction(x, 0, 94, 3);
        fraction(x, 1, 100, 3);
        fraction(x, 2, 106, 3);
        refused(x, "price(3)", x.price(3), 2);
        refused(x, "price(-1)", x.price(-1), 2);
        is("upper() unchanged", x.upper(), 106);
        is("lower() unchanged", x.lower(), 3);
        x.let(6, 100000);
        for (int r = 0; r < 6; r++) {
            fraction(x, r, 50000, 3);
        }
        // A chain against the numbers: room 5 may be 1 dearer than room 0, room 4 than room 5, and so on to room 1.
        int[][] chain = new int[6][6];
        for (int p = 0; p < 6; p++) {
            chain[p][p] = 10;
            chain[p][(p + 1) % 6] = p == 0 ? 0 : 9;
        }
        values(x, chain);
        fraction(x, 0, 99985, 6);
        for (int r = 1; r < 6; r++) {
            x.price(r);
            is("price(" + r + ") of the chain times 6", x.upper() * 6 / x.lower(), 99985 + 6 * (6 - r));
        }
    }

    private static void upperAndLower() {
        promise = "15 and 16";
        ChoreHouse x = houseOf(4);
        x.let(4, 6);
        fraction(x, 0, 3, 2);
        x.let(4, 0);
        is("upper() behind let", x.upper(), 3);
        is("lower() behind let", x.lower(), 2);
        fraction(x, 3, 0, 1);
        x.let(4, 8);
        fraction(x, 2, 2, 1);
        x.let(4, 7);
        fraction(x, 1, 7, 4);
        x.value(0, 0, 3);
        // The others are dearer by nothing at most, room 0 isn't bound: it stays the measure.
        fraction(x, 0, 7, 4);
        x.value(1, 1, 2);
        // 0, 2, 0, 0 against room 0: 5 quarters, 13 quarters.
        fraction(x, 0, 5, 4);
        fraction(x, 1, 13, 4);
        x.value(1, 1, 20);
        fraction(x, 0, -13, 4);
        is("status() untouched", x.status(), 0);
        x.price(9);
        is("upper() behind a refusal", x.upper(), -13);
        is("lower() behind a refusal", x.lower(), 4);
        is("status() untouched by both", x.status(), 2);
    }

    private static void chore() {
        promise = "17";
        ChoreHouse x = houseOf(1);
        for (int c = 0; c < 24; c++) {
            gives(x, "chore()", x.chore(), c);
            refused(x, "whose(new)", x.whose(c), 10);
        }
        refused(x, "chore() one too many", x.chore(), 7);
        refused(x, "whose(24)", x.whose(24), 2);
        done(x, "turns(1, 0)", x.turns(1, 0));
        gives(x, "burden(0): each 10 at first", x.burden(0), 240);
    }

    private static void mind() {
        promise = "18";
        ChoreHouse x = houseOf(2, 2);
        x.take(0, 0);
        x.take(1, 1);
        done(x, "mind(0, 0, 1000)", x.mind(0, 0, 1000));
        gives(x, "burden(0)", x.burden(0), 1000);
        gives(x, "burden(1)", x.burden(1), 10);
        done(x, "mind(0, 0, 0)", x.mind(0, 0, 0));
        gives(x, "burden(0) of nothing", x.burden(0), 0);
        refused(x, "mind(2, 0, 0)", x.mind(2, 0, -1), 2);
        refused(x, "mind(-1, 0, 0)", x.mind(-1, 0, 0), 2);
        refused(x, "mind(0, 2, 0)", x.mind(0, 2, 1001), 2);
        refused(x, "mind(0, -1, 0)", x.mind(0, -1, 0), 2);
        refused(x, "mind(0, 0, -1)", x.mind(0, 0, -1), 5);
        refused(x, "mind(0, 0, 1001)", x.mind(0, 0, 1001), 5);
        gives(x, "burden(0) unchanged", x.burden(0), 0);
        int newcomer = x.person();
        x.take(0, newcomer);
        gives(x, "burden of a newcomer", x.burden(newcomer), 10);
    }

    private static void turns() {
        promise = "19";
        ChoreHouse x = houseOf(3, 7);
        done(x, "turns(3, 2)", x.turns(3, 2));
        owners(x, 2, 0, 1, 2, 0, 1, 2);
        done(x, "turns(2, 1)", x.turns(2, 1));
        owners(x, 1, 0, 1, 0, 1, 0, 1);
        minds(x, new int[] {5, 4, 3, 3, 2, 9, 9}, new int[] {0, 0, 0, 0, 0, 0, 0}, new int[] {9, 9, 9, 9, 9, 1, 0});
        done(x, "turns(3, 0)", x.turns(3, 0));
        // 0 takes 4, 1 takes 0, 2 takes 6; 0 takes 2, 1 takes 1, 2 takes 5; 0 takes 3.
        owners(x, 1, 1, 0, 0, 0, 2, 2);
        refused(x, "turns(0, 3): none of the people", x.turns(0, 3), 2);
        refused(x, "turns(3, -1)", x.turns(3, -1), 2);
        refused(x, "turns(4, 0)", x.turns(4, 0), 5);
        refused(x, "turns(0, 0)", x.turns(0, 0), 5);
        refused(x, "turns(-1, 2)", x.turns(-1, 2), 5);
        refused(x, "turns(4, 3)", x.turns(4, 3), 2);
        refused(x, "turns(2, 2): none of those", x.turns(2, 2), 2);
        owners(x, 1, 1, 0, 0, 0, 2, 2);
        ChoreHouse y = houseOf(1);
        done(y, "turns without chores", y.turns(1, 0));
        ChoreHouse z = new ChoreHouse();
        refused(z, "turns without people", z.turns(0, 0), 2);
    }

    private static void whose() {
        promise = "20";
        ChoreHouse x = houseOf(2, 2);
        x.take(1, 1);
        gives(x, "whose(1)", x.whose(1), 1);
        refused(x, "whose(0)", x.whose(0), 10);
        refused(x, "whose(2)", x.whose(2), 2);
        refused(x, "whose(-1)", x.whose(-1), 2);
        refused(x, "whose(least)", x.whose(LEAST), 2);
    }

    private static void burden() {
        promise = "21";
        ChoreHouse x = houseOf(2, 4);
        minds(x, new int[] {1, 20, 300, 1000}, new int[] {7, 7, 7, 7});
        gives(x, "burden(0) of none", x.burden(0), 0);
        x.take(0, 0);
        x.take(2, 0);
        x.take(3, 0);
        x.take(1, 1);
        gives(x, "burden(0)", x.burden(0), 1301);
        gives(x, "burden(1)", x.burden(1), 7);
        refused(x, "burden(2)", x.burden(2), 2);
        refused(x, "burden(-1)", x.burden(-1), 2);
    }

    private static void envies() {
        promise = "22";
        ChoreHouse x = houseOf(3, 4);
        minds(x, new int[] {6, 4, 4, 10}, new int[] {1, 1, 1, 50});
        x.take(0, 0);
        x.take(1, 0);
        x.take(2, 1);
        gives(x, "10 against 4, and 4 against 4", x.envies(0, 1), 1);
        gives(x, "1 against 2", x.envies(1, 0), 0);
        x.mind(0, 2, 3);
        gives(x, "10 against 3, and 4 against 3", x.envies(0, 1), 2);
        x.take(3, 1);
        gives(x, "10 against 13", x.envies(0, 1), 0);
        gives(x, "51 against 2, and 1 against 2", x.envies(1, 0), 1);
        x.mind(0, 2, 0);
        gives(x, "10 against 10", x.envies(0, 1), 0);
        gives(x, "10 against nothing, and 4", x.envies(0, 2), 2);
        gives(x, "nothing against 10", x.envies(2, 0), 0);
        x.take(1, -1);
        gives(x, "6 against nothing, and nothing", x.envies(0, 2), 1);
        refused(x, "envies(0, 0)", x.envies(0, 0), 2);
        refused(x, "envies(3, 0)", x.envies(3, 0), 2);
        refused(x, "envies(0, 3)", x.envies(0, 3), 2);
        refused(x, "envies(-1, 0)", x.envies(-1, 0), 2);
        refused(x, "envies(0, -1)", x.envies(0, -1), 2);
    }

    private static void swap() {
        promise = "23";
        ChoreHouse x = houseOf(2, 2);
        refused(x, "nobody has any", x.swap(), 9);
        x.take(0, 0);
        refused(x, "one alone has one", x.swap(), 9);
        x.take(1, 1);
        refused(x, "like ones", x.swap(), 9);
        x.mind(0, 1, 9);
        refused(x, "one alone would gain", x.swap(), 9);
        x.mind(1, 0, 9);
        gives(x, "both gain", x.swap(), 2);
        owners(x, 1, 0);
        refused(x, "and not again", x.swap(), 9);
        ChoreHouse empty = new ChoreHouse();
        refused(empty, "no people", empty.swap(), 9);
        // A ring of all ten: each one wants the chore of the one ahead alone.
        ChoreHouse y = houseOf(10, 10);
        for (int p = 0; p < 10; p++) {
            y.take(p, p);
            y.mind(p, (p + 9) % 10, 1);
        }
        gives(y, "ten", y.swap(), 10);
        owners(y, 1, 2, 3, 4, 5, 6, 7, 8, 9, 0);
        refused(y, "ten, not again", y.swap(), 9);
    }

    private static void swapOrder() {
        promise = "23";
        // 0 -> 1 -> 2 -> 0 is a ring of three; 3 and 4 make one of two, which goes ahead.
        ChoreHouse x = houseOf(5, 5);
        for (int c = 0; c < 5; c++) {
            x.take(c, c);
        }
        x.mind(1, 0, 0);
        x.mind(2, 1, 0);
        x.mind(0, 2, 0);
        x.mind(3, 4, 0);
        x.mind(4, 3, 0);
        gives(x, "the fewest first", x.swap(), 2);
        owners(x, 0, 1, 2, 4, 3);
        gives(x, "then the other", x.swap(), 3);
        owners(x, 1, 2, 0, 4, 3);
        // Of rings of two the one with the lesser chores: 0 2 ahead of 0 3 and of 1 2.
        ChoreHouse y = houseOf(2, 4);
        minds(y, new int[] {9, 9, 5, 1}, new int[] {1, 1, 9, 9});
        y.take(0, 0);
        y.take(1, 0);
        y.take(2, 1);
        y.take(3, 1);
        gives(y, "the lesser chores", y.swap(), 2);
        owners(y, 1, 0, 0, 1);
        gives(y, "the others behind", y.swap(), 2);
        owners(y, 1, 1, 0, 0);
        // In a ring the chores given are told from its least one: 0 3 1 is behind 0 2 4.
        ChoreHouse z = houseOf(5, 5);
        for (int c = 0; c < 5; c++) {
            z.take(c, c);
        }
        z.mind(3, 0, 0);
        z.mind(1, 3, 0);
        z.mind(0, 1, 0);
        z.mind(2, 0, 0);
        z.mind(4, 2, 0);
        z.mind(0, 4, 0);
        gives(z, "the first in order", z.swap(), 3);
        owners(z, 2, 1, 4, 3, 0);
    }

    private static void take() {
        promise = "24";
        ChoreHouse x = houseOf(2, 2);
        done(x, "take(0, 1)", x.take(0, 1));
        gives(x, "whose(0)", x.whose(0), 1);
        done(x, "take(0, 0)", x.take(0, 0));
        gives(x, "whose(0), then", x.whose(0), 0);
        refused(x, "take(0, 2)", x.take(0, 2), 2);
        refused(x, "take(0, -2)", x.take(0, -2), 2);
        refused(x, "take(2, 0)", x.take(2, 0), 2);
        refused(x, "take(-1, 0)", x.take(-1, 0), 2);
        refused(x, "take(2, -1)", x.take(2, -1), 2);
        gives(x, "whose(0), unchanged", x.whose(0), 0);
        done(x, "take(0, NONE)", x.take(0, ChoreHouse.NONE));
        refused(x, "whose(0), nobody", x.whose(0), 10);
        done(x, "take(0, NONE) again", x.take(0, ChoreHouse.NONE));
    }

    private static void paid() {
        promise = "25";
        ChoreHouse x = houseOf(3);
        done(x, "paid(0, 1, 7)", x.paid(0, 1, 7));
        balances(x, 0, 0, 0);
        done(x, "paid(2, 11, 6)", x.paid(2, 11, 6));
        balances(x, 0, -6, 6);
        done(x, "paid(2, 1000000, 1)", x.paid(2, 1000000, 1));
        balances(x, -1000000, -6, 1000006);
        refused(x, "paid(3, 0, 0)", x.paid(3, 0, 0), 2);
        refused(x, "paid(-1, 1, 1)", x.paid(-1, 1, 1), 2);
        refused(x, "paid(0, 0, 1)", x.paid(0, 0, 1), 5);
        refused(x, "paid(0, -5, 1)", x.paid(0, -5, 1), 5);
        refused(x, "paid(0, 1000001, 1)", x.paid(0, 1000001, 1), 5);
        refused(x, "paid(0, 1, 0)", x.paid(0, 1, 0), 5);
        refused(x, "paid(0, 1, 8)", x.paid(0, 1, 8), 5);
        refused(x, "paid(0, 1, 9)", x.paid(0, 1, 9), 5);
        refused(x, "paid(0, 1, least)", x.paid(0, 1, LEAST), 5);
        refused(x, "paid(0, 1, most)", x.paid(0, 1, MOST), 5);
        balances(x, -1000000, -6, 1000006);
        for (int k = 3; k < 200; k++) {
            done(x, "paid, more", x.paid(1, 1000000, 1));
        }
        refused(x, "paid, one too many", x.paid(1, 1, 1), 7);
        refused(x, "paid, 5 ahead of 7", x.paid(1, 0, 1), 5);
        refused(x, "paid, 2 ahead of 7", x.paid(3, 1, 1), 2);
        balances(x, -198000000, 196999994, 1000006);
        done(x, "settle()", x.settle());
        done(x, "paid, again", x.paid(1, 1, 1));
        ChoreHouse y = houseOf(10);
        done(y, "paid(9, 25, 1023)", y.paid(9, 25, 1023));
        balances(y, -3, -3, -3, -3, -3, -2, -2, -2, -2, 23);
        refused(y, "paid(9, 25, 1024)", y.paid(9, 25, 1024), 5);
    }

    private static void balance() {
        promise = "26";
        ChoreHouse x = houseOf(2);
        x.paid(0, 2, 3);
        balances(x, 1, -1);
        refused(x, "balance(2)", x.balance(2), 2);
        refused(x, "balance(-1)", x.balance(-1), 2);
        int newcomer = x.person();
        gives(x, "balance of a newcomer", x.balance(newcomer), 0);
    }

    private static void fewest() {
        promise = "27";
        ChoreHouse x = houseOf(10);
        gives(x, "none", x.fewest(), 0);
        for (int p = 0; p < 10; p += 2) {
            x.paid(p, p + 1, 2 << p);
        }
        gives(x, "five pairs", x.fewest(), 5);
        x.paid(0, 100, 512);
        // 1 owes 1 to 0, and 9 owes 109, of which 100 are for 0: both heaps become one.
        gives(x, "two pairs joined", x.fewest(), 6);
        x.settle();
        gives(x, "settled", x.fewest(), 0);
        x.paid(0, 1000, 1022);
        gives(x, "all to one", x.fewest(), 9);
        ChoreHouse y = houseOf(5);
        // 5, 4, -3, -3, -3: no part of them is 0 together.
        y.paid(0, 3, 4);
        y.paid(0, 2, 8);
        y.paid(1, 1, 8);
        y.paid(1, 3, 16);
        gives(y, "one heap of five", y.fewest(), 4);
    }

    private static void plan() {
        promise = "28";
        ChoreHouse x = houseOf(6);
        refused(x, "plan(0, 3) of none", x.plan(0, 3), 9);
        // 4, 3, -3, -4, 0, 0: heaps 0 3 and 1 2.
        x.paid(0, 4, 8);
        x.paid(1, 3, 4);
        payment(x, 0, 3, 0, 4);
        payment(x, 1, 2, 1, 3);
        refused(x, "plan(2, 0)", x.plan(2, 0), 9);
        refused(x, "plan(-1, 0)", x.plan(-1, 0), 9);
        refused(x, "plan(2, 3)", x.plan(2, 3), 9);
        refused(x, "plan(1, 3)", x.plan(1, 3), 5);
        refused(x, "plan(1, -1)", x.plan(1, -1), 5);
        refused(x, "plan(least, most)", x.plan(LEAST, MOST), 9);
        refused(x, "plan(0, most)", x.plan(0, MOST), 5);
        // 4, 4, -4, -4, 0, 0: of 0 2 and 0 3 the first is the lesser set.
        x.paid(1, 1, 4);
        payment(x, 0, 2, 0, 4);
        payment(x, 1, 3, 1, 4);
        // 4, 4, -4, -4, 3, -3.
        x.paid(4, 3, 32);
        payment(x, 2, 5, 4, 3);
        gives(x, "fewest()", x.fewest(), 3);
        // 10, -3, -7, -5, 5, 0: the least one's heap is 0 1 2, though 3 4 is shorter.
        ChoreHouse y = houseOf(6);
        y.paid(0, 3, 2);
        y.paid(0, 7, 4);
        y.paid(4, 5, 8);
        payment(y, 0, 1, 0, 3);
        payment(y, 1, 2, 0, 7);
        payment(y, 2, 3, 4, 5);
        // 2, 9, -4, -7, 0, 0 in one heap: the first below 0 pays the first above it, as much as can be.
        ChoreHouse z = houseOf(6);
        z.paid(0, 2, 4);
        z.paid(1, 2, 4);
        z.paid(1, 7, 8);
        payment(z, 0, 2, 0, 2);
        payment(z, 1, 2, 1, 2);
        payment(z, 2, 3, 1, 7);
        // -6, 3, 3, -1, -2, 3 is best in two heaps: 0 1 2, the least set with 0; then 3 4 5.
        ChoreHouse w = houseOf(6);
        w.paid(1, 3, 1);
        w.paid(2, 3, 1);
        w.paid(5, 1, 8);
        w.paid(5, 2, 16);
        payment(w, 0, 0, 1, 3);
        payment(w, 1, 0, 2, 3);
        payment(w, 2, 3, 5, 1);
        payment(w, 3, 4, 5, 2);
        gives(w, "fewest() of two heaps", w.fewest(), 4);
        // -3, 1, 2, -3, 3: the least set 0 1 2 leaves 3 4; 0 4 leaves 1 2 3, as many heaps, but is a greater set.
        ChoreHouse v = houseOf(5);
        v.paid(1, 1, 1);
        v.paid(2, 2, 1);
        v.paid(4, 3, 8);
        payment(v, 0, 0, 1, 1);
        payment(v, 1, 0, 2, 2);
        payment(v, 2, 3, 4, 3);
    }

    private static void settle() {
        promise = "29";
        ChoreHouse x = houseOf(3);
        done(x, "settle() of nothing", x.settle());
        for (int k = 0; k < 200; k++) {
            x.paid(0, 10, 6);
        }
        refused(x, "paid, one too many", x.paid(0, 10, 6), 7);
        gives(x, "fewest()", x.fewest(), 2);
        done(x, "settle()", x.settle());
        balances(x, 0, 0, 0);
        gives(x, "fewest() then", x.fewest(), 0);
        refused(x, "plan(0, 0) then", x.plan(0, 0), 9);
        // Without status() behind each: nothing is promised behind 512 calls.
        for (int k = 0; k < 200; k++) {
            is("paid then", x.paid(0, 10, 1) ? 1 : 0, 1);
        }
        refused(x, "paid then, one too many", x.paid(0, 10, 1), 7);
    }

    private static void part() {
        promise = "30";
        ChoreHouse x = new ChoreHouse();
        row(x, 0, 3, 1, 1, 1, 77);
        done(x, "part(0, 3, 8)", x.part(0, 3, 8));
        rowIs(x, "thirds of 8", 0, 3, 3, 2, 77);
        row(x, 0, 3, 1000000, 999999, 1, 0);
        done(x, "part(0, 4, 1000000000)", x.part(0, 4, 1000000000));
        rowIs(x, "the greatest", 0, 500000000, 499999500, 500, 0);
        row(x, 0, 3, 1, 2, 4);
        // Of 10: 1 and 3 sevenths, 2 and 6, 5 and 5: the two greatest rests have one more.
        done(x, "part(0, 3, 10)", x.part(0, 3, 10));
        rowIs(x, "sevenths", 0, 1, 3, 6);
        row(x, 1, 0, 100, 100);
        done(x, "part(1, 2, 511)", x.part(1, 2, 511));
        rowIs(x, "cut to 8 bits", 1, 0, -1);
        row(x, 1, 1, 1);
        done(x, "part(1, 1, 70000)", x.part(1, 1, 70000));
        rowIs(x, "cut to 16 bits", 1, 4464);
        row(x, 1, 2, 0, 3, 0);
        done(x, "part(1, 3, 0)", x.part(1, 3, 0));
        rowIs(x, "none", 1, 0, 0, 0);
        refused(x, "part of all 0", x.part(1, 3, 5), 5);
        row(x, 2, 3, 0, 0, 5, 1000001);
        refused(x, "part(2, 2, 5): all 0 of those", x.part(2, 2, 5), 5);
        refused(x, "part(2, 4, 5): a weight", x.part(2, 4, 5), 5);
        done(x, "part(2, 3, 5)", x.part(2, 3, 5));
        rowIs(x, "the first three", 2, 0, 0, 5, 1000001);
        row(x, 2, 3, 5, -1);
        refused(x, "part, a weight below 0", x.part(2, 2, 5), 5);
        row(x, 2, 3, Long.MAX_VALUE, Long.MAX_VALUE);
        refused(x, "part, weights far off", x.part(2, 2, 5), 5);
        rowIs(x, "unchanged", 2, Long.MAX_VALUE, Long.MAX_VALUE);
        refused(x, "part(4, 0, -1)", x.part(4, 0, -1), 1);
        refused(x, "part(-1, 1, 1)", x.part(-1, 1, 1), 1);
        refused(x, "part(3, 0, -1)", x.part(3, 0, -1), 3);
        refused(x, "part(2, 0, 1)", x.part(2, 0, 1), 5);
        refused(x, "part(2, -1, 1)", x.part(2, -1, 1), 5);
        refused(x, "part(2, 41, 1)", x.part(2, 41, 1), 5);
        refused(x, "part(2, 40, -1)", x.part(2, 40, -1), 5);
        refused(x, "part(2, 40, 1000000001)", x.part(2, 40, 1000000001), 5);
        refused(x, "part(2, 3, 1): 4 ahead of the weights", x.part(2, 3, 1), 4);
        x.tray(3, 3, 0);
        refused(x, "part of no places", x.part(3, 1, 1), 4);
        x.tray(3, 3, 40);
        for (int i = 0; i < 40; i++) {
            x.write(3, i, 1000000);
        }
        done(x, "part of forty", x.part(3, 40, 999999999));
        for (int i = 0; i < 40; i++) {
            gives(x, "one of forty", x.read(3, i), i < 39 ? 25000000 : 24999999);
        }
    }

    private static void bill() {
        promise = "31";
        ChoreHouse x = houseOf(3);
        refused(x, "nobody there", x.bill(0, 10, 0, 9999, 9999), 9);
        x.stay(0, 0, 9, 0);
        x.stay(0, 5, 14, 0);
        x.stay(0, 14, 14, 0);
        x.stay(1, 10, 19, 5);
        x.stay(0, 18, 30, 0);
        // Days 0 to 19: 0 on 0 to 14 and 18 and 19, 1 on ten: 17 to 10.
        gives(x, "bill(0, 27, 0, 19, 5)", x.bill(0, 27, 0, 19, 5), 17);
        gives(x, "bill(1, 27, 0, 19, 5)", x.bill(1, 27, 0, 19, 5), 10);
        gives(x, "bill(2, 27, 0, 19, 5)", x.bill(2, 27, 0, 19, 5), 0);
        gives(x, "not told yet", x.bill(1, 27, 0, 19, 4), 0);
        gives(x, "days 12 to 12", x.bill(1, 1001, 12, 12, 5), 500);
        gives(x, "days 12 to 12, the first", x.bill(0, 1001, 12, 12, 5), 501);
        gives(x, "days 15 to 17", x.bill(0, 9, 15, 17, 5), 0);
        gives(x, "the greatest", x.bill(0, 1000000000, 0, 9999, 9999), 736842105);
        gives(x, "of nothing", x.bill(0, 0, 0, 9, 0), 0);
        x.strike(4, 7);
        gives(x, "struck, not yet known", x.bill(0, 27, 0, 19, 6), 17);
        gives(x, "struck", x.bill(0, 25, 0, 19, 7), 15);
        refused(x, "nobody there on 40", x.bill(0, 10, 40, 50, 9), 9);
        refused(x, "bill(3, ..)", x.bill(3, -1, 5, 4, 0), 2);
        refused(x, "bill(-1, ..)", x.bill(-1, 1, 0, 1, 0), 2);
        refused(x, "amount below 0", x.bill(0, -1, 0, 9, 0), 5);
        refused(x, "amount too great", x.bill(0, 1000000001, 0, 9, 0), 5);
        refused(x, "from above to", x.bill(0, 1, 9, 8, 0), 5);
        refused(x, "from below 0", x.bill(0, 1, -1, 8, 0), 5);
        refused(x, "to above all", x.bill(0, 1, 0, 10000, 0), 5);
        refused(x, "known below 0", x.bill(0, 1, 0, 8, -1), 5);
        refused(x, "known above all", x.bill(0, 1, 0, 8, 10000), 5);
        refused(x, "far off", x.bill(0, MOST, LEAST, MOST, LEAST), 5);
    }

    private static void points() {
        promise = "32";
        ChoreHouse x = houseOf(2);
        gives(x, "has(1) at first", x.has(1), 0);
        done(x, "points(1, 1000000)", x.points(1, 1000000));
        gives(x, "has(1)", x.has(1), 1000000);
        gives(x, "has(0)", x.has(0), 0);
        refused(x, "points(1, 1000001)", x.points(1, 1000001), 5);
        refused(x, "points(1, -1)", x.points(1, -1), 5);
        refused(x, "points(2, -1)", x.points(2, -1), 2);
        refused(x, "points(-1, 1)", x.points(-1, 1), 2);
        gives(x, "has(1), unchanged", x.has(1), 1000000);
        done(x, "points(1, 0)", x.points(1, 0));
        gives(x, "has(1) of none", x.has(1), 0);
    }

    private static void hold() {
        promise = "33";
        ChoreHouse x = houseOf(4);
        refused(x, "all have 0", x.hold(1), 9);
        refused(x, "5 ahead of 9", x.hold(0), 5);
        x.points(0, 1);
        x.points(1, 1);
        x.points(3, 1);
        done(x, "hold(1000000)", x.hold(1000000));
        gives(x, "has(0)", x.has(0), 333334);
        gives(x, "has(1)", x.has(1), 333333);
        gives(x, "has(2)", x.has(2), 0);
        gives(x, "has(3)", x.has(3), 333333);
        refused(x, "hold(1000001)", x.hold(1000001), 5);
        refused(x, "hold(-1)", x.hold(-1), 5);
        gives(x, "has(0), unchanged", x.has(0), 333334);
        done(x, "hold(1)", x.hold(1));
        gives(x, "has(0) of one", x.has(0), 1);
        gives(x, "has(3) of one", x.has(3), 0);
        x.points(0, 2);
        x.points(1, 3);
        x.points(2, 3);
        done(x, "hold(3)", x.hold(3));
        // 6, 9 and 9 eighths: one each.
        gives(x, "has(0) of three", x.has(0), 1);
        gives(x, "has(1) of three", x.has(1), 1);
        gives(x, "has(2) of three", x.has(2), 1);
        ChoreHouse y = new ChoreHouse();
        refused(y, "no people", y.hold(5), 9);
        ChoreHouse z = houseOf(10);
        for (int p = 0; p < 10; p++) {
            z.points(p, 1000000);
        }
        done(z, "hold(999999) of ten", z.hold(999999));
        gives(z, "has(8) of ten", z.has(8), 100000);
        gives(z, "has(9) of ten", z.has(9), 99999);
    }

    private static void has() {
        promise = "34";
        ChoreHouse x = houseOf(2);
        x.points(0, 5);
        gives(x, "has(0)", x.has(0), 5);
        gives(x, "has(1)", x.has(1), 0);
        refused(x, "has(2)", x.has(2), 2);
        refused(x, "has(-1)", x.has(-1), 2);
        refused(x, "has(least)", x.has(LEAST), 2);
    }
}
