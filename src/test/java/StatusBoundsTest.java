/** Boundary cases of promises 1 and 2, and of what the document says of every STATUS. */
public final class StatusBoundsTest extends Bounds {
    public static void main(String[] args) {
        newTraysAreMissing();
        newHasNoPeople();
        newHasNoRooms();
        newHasNoChores();
        newHasNoStaysAndPayments();
        newFractionAndStatus();
        newIsNewBesideAnother();
        latestStatusBehindRefusals();
        latestStatusBehindWork();
        latestStatusBehindTrayWork();
        callsWithoutStatus();
        everyStatus();
        zeroElse();
        noneAndFalse();
        farOffArguments();
        lastOfMostCalls();
        end(1, 2);
    }

    private static void newTraysAreMissing() {
        promise(1, "TRAYS are MISSING");
        House h = House.empty();
        for (int t = 0; t < 4; t++) {
            h.refuses(3, "read(" + t + ", 0)", "write(" + t + ", 0, 1)", "part(" + t + ", 1, 1)",
                "pour(" + t + ", 0, " + t + ", 0, 0)");
        }
    }

    private static void newHasNoPeople() {
        promise(1, "no PEOPLE");
        House h = House.empty();
        h.refuses(2, "stay(0, 0, 0, 0)", "there(0, 0, 0)", "room(0)", "burden(0)", "envies(0, 1)", "turns(0, 0)", "turns(1, 0)",
            "paid(0, 1, 1)", "balance(0)", "bill(0, 0, 0, 0, 0)", "points(0, 0)", "has(0)");
        h.refuses(5, "let(1, 0)");
        h.refuses(9, "hold(1)");
        h.gives(0, "person()");
    }

    private static void newHasNoRooms() {
        promise(1, "no ROOMS");
        House h = House.of(6);
        h.refuses(2, "room(0)", "price(0)", "value(0, 0, 0)");
    }

    private static void newHasNoChores() {
        promise(1, "no CHORES");
        House h = House.of(2);
        h.refuses(2, "whose(0)", "mind(0, 0, 0)", "take(0, 0)", "take(0, -1)");
        h.refuses(9, "swap()");
        h.gives(0, "burden(0)", "envies(0, 1)", "chore()");
    }

    private static void newHasNoStaysAndPayments() {
        promise(1, "A new object");
        House h = House.of(1);
        h.refuses(2, "strike(0, 0)");
        h.refuses(9, "plan(0, 0)", "bill(0, 1, 0, 9999, 9999)");
        h.gives(0, "there(0, 0, 9999)", "fewest()", "balance(0)", "has(0)", "stay(0, 0, 0, 0)");
    }

    private static void newFractionAndStatus() {
        promise(1, "the FRACTION 0 by 1; STATUS 0");
        House h = House.empty();
        h.answers(0, "status()", "upper()");
        h.answers(1, "lower()");
        h.answers(0, "status()");
    }

    private static void newIsNewBesideAnother() {
        promise(1, "TRAYS are MISSING, no PEOPLE, no ROOMS, no CHORES; the FRACTION 0 by 1; STATUS 0.");
        House full = House.of(2, 1);
        full.done("tray(0, 0, 1)", "let(2, 5)", "price(0)", "paid(0, 3, 2)", "points(0, 4)", "take(0, 0)");
        full.gives(0, "stay(0, 0, 9, 0)");
        full.refuses(2, "has(2)");
        House h = House.empty();
        h.answers(0, "status()", "upper()");
        h.answers(1, "lower()");
        h.refuses(3, "read(0, 0)");
        h.refuses(2, "has(0)", "price(0)", "whose(0)", "strike(0, 0)");
        h.gives(0, "fewest()", "person()", "balance(0)", "has(0)", "there(0, 0, 0)", "chore()");
        h.refuses(10, "whose(0)");
        full.gives(3, "balance(0)");
    }

    /** Each call that can be refused, right behind one with STATUS 0. */
    private static void latestStatusBehindRefusals() {
        promise(2, "The STATUS of the latest call that has one.");
        House h = House.of(1);
        String[] withTwo = {"stay(1, 0, 0, 0)", "strike(0, 0)", "there(1, 0, 0)", "value(0, 0, 0)", "room(0)", "price(0)",
            "mind(0, 0, 0)", "turns(1, 1)", "whose(0)", "burden(1)", "envies(0, 1)", "take(0, 0)", "paid(1, 1, 1)", "balance(1)",
            "bill(1, 0, 0, 0, 0)", "points(1, 0)", "has(1)"};
        for (String refused : withTwo) {
            h.gives(0, "fewest()");
            h.refuses(2, refused);
            h.answers(2, "status()", "status()");
        }
        String[] withOne = {"tray(4, 0, 0)", "write(4, 0, 0)", "read(4, 0)", "pour(4, 0, 0, 0, 0)", "part(4, 1, 0)"};
        for (String refused : withOne) {
            h.gives(0, "fewest()");
            h.refuses(1, refused);
        }
        h.gives(0, "fewest()");
        h.refuses(5, "let(0, 0)");
        h.gives(0, "fewest()");
        h.refuses(5, "hold(0)");
        h.gives(0, "fewest()");
        h.refuses(9, "swap()");
        h.gives(0, "fewest()");
        h.refuses(9, "plan(0, 0)");
    }

    /** Each call right behind a refused one: what is done has STATUS 0. */
    private static void latestStatusBehindWork() {
        promise(2, "The STATUS of the latest call that has one.");
        House h = House.empty();
        String refused = "has(9)";
        gives(h, refused, 0, "person()", "chore()", "burden(0)", "fewest()", "balance(0)", "has(0)");
        gives(h, refused, 1, "person()", "let(2, 5)", "value(0, 1, 3)", "value(1, 0, 3)", "room(0)", "price(0)");
        gives(h, refused, 0, "stay(0, 0, 0, 0)");
        gives(h, refused, 1, "there(0, 0, 0)", "chore()", "mind(0, 1, 1)", "mind(1, 0, 1)");
        gives(h, refused, 1, "take(0, 0)", "take(1, 1)", "envies(0, 1)");
        gives(h, refused, 2, "swap()");
        gives(h, refused, 1, "whose(0)", "turns(2, 1)", "paid(0, 1, 2)", "fewest()", "balance(0)");
        gives(h, refused, 1, "plan(0, 0)", "settle()", "bill(0, 1, 0, 0, 0)", "strike(0, 0)", "points(0, 3)", "hold(1)", "has(0)");
    }

    private static void latestStatusBehindTrayWork() {
        promise(2, "The STATUS of the latest call that has one.");
        House h = House.empty();
        gives(h, "has(0)", 1, "tray(0, 0, 1)", "write(0, 0, 1)", "read(0, 0)", "pour(0, 0, 0, 0, 1)", "part(0, 1, 1)");
    }

    private static void gives(House h, String refused, long due, String... texts) {
        for (String text : texts) {
            h.answers(-1, refused);
            h.gives(due, text);
        }
    }

    private static void callsWithoutStatus() {
        promise(2, "status(), upper(), lower() have none.");
        House h = House.of(1);
        h.done("let(1, 7)", "price(0)");
        h.refuses(9, "swap()");
        h.answers(7, "upper()");
        h.answers(9, "status()");
        h.answers(1, "lower()");
        h.answers(9, "status()", "status()");
        h.gives(0, "fewest()");
        h.answers(7, "upper()");
        h.answers(1, "lower()");
        h.answers(0, "status()");
    }

    private static void everyStatus() {
        promise(2, "STATUS of a call is the first of these that holds: 1 no such TRAY (or sort).");
        House h = House.of(10, 1);
        h.lay(0, 0, 1, 2);
        h.lay(1, 1, 1, 2);
        h.gives(0, "stay(0, 0, 0, 0)");
        h.done("strike(0, 0)");
        h.refuses(1, "read(4, 0)");
        h.refuses(2, "has(10)");
        h.refuses(3, "read(2, 0)");
        h.refuses(4, "read(0, 2)");
        h.refuses(5, "hold(0)");
        h.refuses(6, "tray(0, 0, -1)");
        h.refuses(7, "person()");
        h.refuses(8, "strike(0, 0)");
        h.refuses(9, "swap()");
        h.refuses(10, "whose(0)");
        h.refuses(11, "pour(0, 0, 1, 0, 1)");
        h.gives(0, "has(9)");
    }

    /** An answer of 0, of nobody or of nothing done is no refusal. */
    private static void zeroElse() {
        promise(2, "0 else.");
        House h = House.of(2, 1);
        h.gives(0, "there(0, 0, 0)", "burden(0)", "envies(0, 1)", "balance(0)", "fewest()", "has(0)");
        h.done("settle()", "take(0, -1)", "tray(0, 0, 0)", "pour(0, 0, 0, 0, 0)", "points(0, 0)", "mind(0, 0, 10)");
        h.done("let(1, 0)", "value(0, 0, 0)", "price(0)", "settle()", "take(0, 1)", "take(0, 1)", "tray(0, 0, 0)");
        h.gives(0, "stay(0, 9, 9, 0)", "bill(0, 0, 0, 9, 0)", "bill(1, 100, 0, 9, 0)", "room(0)");
        h.gives(100, "bill(0, 100, 0, 9, 0)");
    }

    /** NONE is an answer as well: the STATUS alone tells them apart. */
    private static void noneAndFalse() {
        promise(2, "A call with another STATUS than 0 gives NONE, or false, and changes nothing but STATUS.");
        if (ChoreHouse.NONE != -1) {
            fault("NONE is " + ChoreHouse.NONE);
        }
        House h = House.of(2);
        h.lay(0, 3, -1);
        h.done("paid(0, 1, 2)");
        h.gives(-1, "read(0, 0)", "balance(1)");
        h.refuses(4, "read(0, 1)");
        h.refuses(2, "balance(2)");
    }

    /** All arguments at the ends of their types, in an empty house and in one that has something of everything. */
    private static void farOffArguments() {
        promise(2, "STATUS of a call is the first of these that holds");
        House some = House.of(3, 3);
        for (int t = 0; t < 4; t++) {
            some.lay(t, 3, 1, 2, 3);
        }
        some.gives(0, "stay(0, 0, 9, 0)");
        some.done("let(3, 10)", "value(1, 0, 5)", "turns(3, 0)", "paid(0, 9, 6)", "points(1, 4)");
        for (String far : new String[] {"least", "most"}) {
            for (House h : new House[] {House.empty(), some}) {
                h.refuses(1, call("tray", 3, far), call("write", 3, far), call("read", 2, far), call("pour", 5, far),
                    call("part", 3, far));
                h.refuses(2, call("stay", 4, far), call("strike", 2, far), call("there", 3, far), call("value", 3, far),
                    call("room", 1, far), call("price", 1, far), call("mind", 3, far), call("turns", 2, far),
                    call("whose", 1, far), call("burden", 1, far), call("envies", 2, far), call("take", 2, far),
                    call("paid", 3, far), call("balance", 1, far), call("bill", 5, far), call("points", 2, far),
                    call("has", 1, far));
                h.refuses(5, call("let", 2, far), call("hold", 1, far));
                h.refuses(9, call("plan", 2, far));
            }
        }
    }

    /** Refused and done by turns, each counted: the two last of 512 calls answer as the first ones did. */
    private static void lastOfMostCalls() {
        promise(2, "An object is used for at most 512 calls after it has been made");
        House h = House.of(10);
        for (int i = 0; i < 125; i++) {
            h.gives(1, "points(9, " + i + ")");
            h.answers(-1, "has(10)");
            h.answers(2, "status()");
        }
        h.gives(124, "has(9)");
    }

    private static String call(String name, int arguments, String each) {
        return name + "(" + (each + ", ").repeat(arguments - 1) + each + ")";
    }
}
