/** Boundary cases of promises 30 to 34: PARTING. */
public final class PartingBoundsTest extends Bounds {
    public static void main(String[] args) {
        partSoMany();
        partAmount();
        partPlaces();
        partWeights();
        partAllZero();
        partFirstNumbersAlone();
        partRoundedDown();
        partGreatestRests();
        partFirstOfLike();
        partOfLargest();
        partCutToSort();
        partOrder();
        partTrays();
        billPeople();
        billAmount();
        billDays();
        billNobodyThere();
        billOrder();
        billDaysOfASpan();
        billDaysOnce();
        billAsKnown();
        billLastPenny();
        billLongest();
        pointsRange();
        pointsPeople();
        pointsOrder();
        holdRange();
        holdAllZero();
        holdOrder();
        holdParts();
        holdLargest();
        hasPeople();
        hasAtFirst();
        end(30, 34);
    }

    private static void partSoMany() {
        promise(30, "The first numbers of a TRAY, so many (1 to 40), are weights");
        House h = House.empty();
        h.done("tray(0, 3, 40)");
        for (int place = 0; place < 40; place++) {
            h.answers(1, "write(0, " + place + ", 1)");
        }
        h.refuses(5, "part(0, 0, 80)", "part(0, -1, 80)", "part(0, 41, 80)", "part(0, least, 80)", "part(0, most, 80)");
        h.done("part(0, 40, 80)");
        h.gives(2, "read(0, 0)", "read(0, 39)");
        h.done("part(0, 1, 80)");
        h.gives(80, "read(0, 0)");
        h.gives(2, "read(0, 1)", "read(0, 39)");
    }

    private static void partAmount() {
        promise(30, "PARTING an amount (0 to 1,000,000,000)");
        House h = House.empty();
        h.lay(0, 3, 1, 1);
        h.refuses(5, "part(0, 2, -1)", "part(0, 2, 1000000001)", "part(0, 2, least)", "part(0, 2, most)");
        h.row(0, 1, 1);
        h.done("part(0, 2, 1000000000)");
        h.row(0, 500000000, 500000000);
        h.lay(0, 3, 1, 1);
        h.done("part(0, 2, 1)");
        h.row(0, 1, 0);
        h.done("part(0, 2, 0)");
        h.row(0, 0, 0);
    }

    private static void partPlaces() {
        promise(30, "4; 5: a weight, or all 0");
        House h = House.empty();
        h.lay(0, 3, 1, 1, 1);
        h.refuses(4, "part(0, 4, 9)", "part(0, 40, 9)");
        h.done("part(0, 3, 9)");
        h.row(0, 3, 3, 3);
        h.done("tray(1, 3, 0)");
        h.refuses(4, "part(1, 1, 9)", "part(1, 40, 9)");
        h.done("tray(2, 3, 39)", "write(2, 0, 1)");
        h.refuses(4, "part(2, 40, 9)");
        h.done("part(2, 39, 9)");
        h.gives(9, "read(2, 0)");
    }

    private static void partWeights() {
        promise(30, "by weights (0 to 1,000,000, together above 0)");
        House h = House.empty();
        h.lay(0, 3, 1000000, 0);
        h.done("part(0, 2, 7)");
        h.row(0, 7, 0);
        long[] wrong = {-1, 1000001, Long.MIN_VALUE, Long.MAX_VALUE, -1000000, 4294967297L, 1L << 32};
        for (long weight : wrong) {
            h.lay(0, 3, 5, weight, 5);
            h.refuses(5, "part(0, 3, 7)", "part(0, 2, 0)");
            h.row(0, 5, weight, 5);
        }
        h.lay(0, 3, -1, 5);
        h.refuses(5, "part(0, 2, 7)", "part(0, 1, 7)");
        h.lay(0, 3, 5, 1000001);
        h.refuses(5, "part(0, 2, 7)");
    }

    private static void partAllZero() {
        promise(30, "together above 0");
        House h = House.empty();
        h.lay(0, 3, 0, 0, 1);
        h.refuses(5, "part(0, 1, 7)", "part(0, 2, 7)", "part(0, 2, 0)");
        h.done("part(0, 3, 7)");
        h.row(0, 0, 0, 7);
        h.done("tray(1, 0, 40)");
        h.refuses(5, "part(1, 40, 7)", "part(1, 1, 0)");
        // Weights whose sum is 0 though not all of them are.
        h.lay(2, 3, -4, 4);
        h.refuses(5, "part(2, 2, 7)");
    }

    private static void partFirstNumbersAlone() {
        promise(30, "the parts of an amount come in their places");
        House h = House.empty();
        h.lay(0, 3, 1, 3, -9, 1000001, 0);
        h.done("part(0, 2, 8)");
        h.row(0, 2, 6, -9, 1000001, 0);
        h.refuses(5, "part(0, 3, 8)");
        h.row(0, 2, 6, -9, 1000001, 0);
    }

    private static void partRoundedDown() {
        promise(30, "each has the amount times the weight by all weights, rounded down");
        House h = House.empty();
        // 29 by 10 times 2, 3, 5: 5.8, 8.7, 14.5.
        h.lay(0, 3, 2, 3, 5);
        h.done("part(0, 3, 29)");
        h.row(0, 6, 9, 14);
        // Nothing is left where all parts are whole.
        h.lay(0, 3, 2, 3, 5);
        h.done("part(0, 3, 30)");
        h.row(0, 6, 9, 15);
        h.lay(0, 3, 1000000, 1);
        h.done("part(0, 2, 1000000)");
        h.row(0, 999999, 1);
        h.lay(0, 3, 1000000, 1);
        h.done("part(0, 2, 500000)");
        h.row(0, 500000, 0);
    }

    private static void partGreatestRests() {
        promise(30, "of what is left each of those with the greatest rests (what was rounded off) has one more");
        House h = House.empty();
        // Of 10 by 7: 1 and 3 sevenths, 2 and 6, 5 and 5.
        h.lay(0, 3, 1, 2, 4);
        h.done("part(0, 3, 10)");
        h.row(0, 1, 3, 6);
        // Of 9 by 7: 1 and 2, 2 and 4, 5 and 1: one is left.
        h.lay(0, 3, 1, 2, 4);
        h.done("part(0, 3, 9)");
        h.row(0, 1, 3, 5);
        // A part of 0 can have the greatest rest.
        h.lay(0, 3, 90, 9, 1);
        h.done("part(0, 3, 101)");
        h.row(0, 91, 9, 1);
        h.lay(0, 3, 50, 49, 1);
        h.done("part(0, 3, 80)");
        h.row(0, 40, 39, 1);
    }

    private static void partFirstOfLike() {
        promise(30, "of like ones the first");
        House h = House.empty();
        h.lay(0, 3, 1, 1, 1);
        h.done("part(0, 3, 1)");
        h.row(0, 1, 0, 0);
        h.lay(0, 3, 1, 1, 1);
        h.done("part(0, 3, 2)");
        h.row(0, 1, 1, 0);
        h.lay(0, 3, 0, 1, 1, 0, 1);
        h.done("part(0, 5, 4)");
        h.row(0, 0, 2, 1, 0, 1);
        // 5 by 6 of 3, 1, 1, 1: halves and fives; the like ones behind are ahead of the first.
        h.lay(0, 3, 3, 1, 1, 1);
        h.done("part(0, 4, 5)");
        h.row(0, 2, 1, 1, 1);
        h.lay(0, 3, 1, 1);
        h.done("part(0, 2, 999999999)");
        h.row(0, 500000000, 499999999);
    }

    private static void partOfLargest() {
        promise(30, "PARTING an amount (0 to 1,000,000,000) by weights (0 to 1,000,000, together above 0)");
        House h = House.empty();
        h.done("tray(0, 3, 40)");
        for (int place = 0; place < 40; place++) {
            h.answers(1, "write(0, " + place + ", 1000000)");
        }
        h.done("part(0, 40, 1000000000)");
        for (int place = 0; place < 40; place++) {
            h.answers(25000000, "read(0, " + place + ")");
        }
        for (int place = 0; place < 40; place++) {
            h.answers(1, "write(0, " + place + ", 1000000)");
        }
        h.done("part(0, 40, 999999999)");
        for (int place = 0; place < 39; place++) {
            h.answers(25000000, "read(0, " + place + ")");
        }
        h.answers(24999999, "read(0, 39)");
    }

    private static void partCutToSort() {
        promise(30, "come in their places, cut to its sort");
        House h = House.empty();
        h.lay(0, 0, 1, 1);
        h.done("part(0, 2, 254)");
        h.row(0, 127, 127);
        h.lay(0, 0, 1, 1);
        h.done("part(0, 2, 255)");
        h.row(0, -128, 127);
        h.lay(1, 1, 1, 1);
        h.done("part(1, 2, 65535)");
        h.row(1, -32768, 32767);
        h.lay(1, 1, 1);
        h.done("part(1, 1, 1000000000)");
        h.row(1, -13824);
        h.lay(2, 2, 1);
        h.done("part(2, 1, 1000000000)");
        h.row(2, 1000000000);
        h.lay(3, 3, 1);
        h.done("part(3, 1, 1000000000)");
        h.row(3, 1000000000);
    }

    private static void partOrder() {
        promise(30, "(1; 3; 5: so many, the amount; 4; 5: a weight, or all 0; in this order)");
        House h = House.empty();
        h.lay(0, 3, 1, -1);
        h.done("tray(1, 3, 2)");
        // Ahead of all others: no such TRAY.
        h.refuses(1, "part(4, 0, 1)", "part(4, 41, 1)", "part(4, 1, -1)", "part(-1, 0, -1)", "part(4, 2, 1)");
        // MISSING, ahead of so many, of the amount, of a place.
        h.refuses(3, "part(2, 0, 1)", "part(2, 41, 1)", "part(2, 1, -1)", "part(2, 1, 1000000001)", "part(2, 1, 1)");
        // So many and the amount, ahead of a place.
        h.refuses(5, "part(0, 41, 1)", "part(0, 3, -1)", "part(0, 3, 1000000001)", "part(0, 0, -1)", "part(0, 40, -1)");
        // A place, ahead of a weight and of all 0.
        h.refuses(4, "part(0, 3, 1)", "part(1, 3, 1)", "part(0, 40, 1)");
        h.refuses(5, "part(0, 2, 1)", "part(1, 2, 1)");
    }

    private static void partTrays() {
        promise(30, "The first numbers of a TRAY");
        House h = House.empty();
        for (int t = 0; t < 4; t++) {
            h.lay(t, 3 - t, 1, 1);
        }
        h.done("part(3, 2, 10)");
        h.row(3, 5, 5);
        h.row(0, 1, 1);
        h.done("part(0, 2, 20)");
        h.row(0, 10, 10);
        h.row(1, 1, 1);
        h.row(2, 1, 1);
    }

    private static House livedIn() {
        House h = House.of(3);
        h.gives(0, "stay(0, 0, 9, 0)");
        h.gives(1, "stay(1, 5, 14, 3)");
        return h;
    }

    private static void billPeople() {
        promise(31, "What one of the PEOPLE has to pay of a BILL");
        House h = livedIn();
        h.gives(67, "bill(0, 100, 0, 9, 3)");
        h.gives(33, "bill(1, 100, 0, 9, 3)");
        h.gives(0, "bill(2, 100, 0, 9, 3)");
        h.refuses(2, "bill(-1, 100, 0, 9, 3)", "bill(3, 100, 0, 9, 3)", "bill(10, 100, 0, 9, 3)", "bill(least, 100, 0, 9, 3)",
            "bill(most, 100, 0, 9, 3)");
        House ten = House.of(10);
        ten.gives(0, "stay(9, 0, 0, 0)");
        ten.gives(8, "bill(9, 8, 0, 0, 0)");
        ten.gives(0, "bill(0, 8, 0, 0, 0)");
        ten.refuses(2, "bill(10, 8, 0, 0, 0)");
    }

    private static void billAmount() {
        promise(31, "(2; 5: the amount, days, from above to; 9: nobody was THERE)");
        House h = livedIn();
        h.gives(0, "bill(0, 0, 0, 9, 3)", "bill(1, 0, 0, 9, 3)");
        h.gives(1, "bill(0, 1, 0, 9, 3)");
        h.gives(1000000000, "bill(0, 1000000000, 0, 4, 3)");
        h.gives(666666667, "bill(0, 1000000000, 0, 9, 3)");
        h.gives(333333333, "bill(1, 1000000000, 0, 9, 3)");
        h.refuses(5, "bill(0, -1, 0, 9, 3)", "bill(0, 1000000001, 0, 9, 3)", "bill(0, least, 0, 9, 3)", "bill(0, most, 0, 9, 3)");
    }

    private static void billDays() {
        promise(31, "5: the amount, days, from above to");
        House h = livedIn();
        h.gives(100, "bill(0, 100, 0, 0, 3)");
        h.gives(50, "bill(0, 100, 5, 5, 3)");
        h.gives(50, "bill(0, 100, 0, 9999, 9999)");
        h.refuses(5, "bill(0, 100, -1, 9, 3)", "bill(0, 100, 0, 10000, 3)", "bill(0, 100, 0, 9, -1)", "bill(0, 100, 0, 9, 10000)",
            "bill(0, 100, 6, 5, 3)", "bill(0, 100, 9999, 0, 3)", "bill(0, 100, 1, 0, 3)", "bill(0, 100, 10000, 10000, 3)",
            "bill(0, 100, -1, -1, 3)", "bill(0, 100, least, most, 3)", "bill(0, 100, 0, 9, least)", "bill(0, 100, 0, 9, most)");
    }

    private static void billNobodyThere() {
        promise(31, "9: nobody was THERE");
        House h = livedIn();
        h.refuses(9, "bill(0, 100, 15, 9999, 3)", "bill(2, 100, 15, 15, 3)", "bill(1, 100, 10, 14, 2)", "bill(0, 0, 15, 20, 3)");
        h.gives(100, "bill(1, 100, 14, 9999, 3)", "bill(1, 100, 10, 14, 3)");
        h.gives(0, "bill(0, 100, 14, 9999, 3)");
        h.done("strike(0, 4)");
        h.refuses(9, "bill(0, 100, 0, 4, 4)", "bill(1, 100, 0, 4, 4)");
        h.gives(100, "bill(0, 100, 0, 4, 3)");
        h.gives(100, "bill(1, 100, 0, 5, 4)");
    }

    private static void billOrder() {
        promise(31, "(2; 5: the amount, days, from above to; 9: nobody was THERE)");
        House h = livedIn();
        h.refuses(2, "bill(3, -1, 0, 9, 3)", "bill(3, 1, 9, 0, 3)", "bill(3, 1, 0, 9, -1)", "bill(3, 1, 20, 29, 3)", "bill(-1, -1, -1, -1, -1)");
        h.refuses(5, "bill(0, -1, 20, 29, 3)", "bill(0, 1000000001, 20, 29, 3)", "bill(0, 1, 29, 20, 3)", "bill(0, 1, 20, 10000, 3)",
            "bill(0, 1, 20, 29, -1)", "bill(0, 1, 20, 29, 10000)");
        h.refuses(9, "bill(0, 1, 20, 29, 3)");
    }

    private static void billDaysOfASpan() {
        promise(31, "A BILL is parted by the days in a span on which each is THERE");
        House h = House.of(2);
        h.gives(0, "stay(0, 10, 19, 0)");
        h.gives(1, "stay(1, 0, 99, 0)");
        // Amounts are chosen so that each day is one penny.
        h.gives(10, "bill(0, 110, 0, 99, 0)", "bill(0, 20, 10, 19, 0)");
        h.gives(9, "bill(0, 18, 11, 19, 0)", "bill(0, 18, 10, 18, 0)");
        h.gives(1, "bill(0, 11, 0, 10, 0)", "bill(0, 12, 19, 29, 0)", "bill(0, 2, 10, 10, 0)", "bill(0, 2, 19, 19, 0)");
        h.gives(0, "bill(0, 10, 0, 9, 0)", "bill(0, 10, 20, 29, 0)");
    }

    private static void billDaysOnce() {
        promise(31, "the days in a span on which each is THERE");
        House h = House.of(2);
        // 0 is THERE on days 0 to 14 and 20 to 24: by like STAYS, within one another, side by side, one day in common.
        h.gives(0, "stay(0, 20, 24, 0)");
        h.gives(1, "stay(0, 3, 9, 0)");
        h.gives(2, "stay(0, 0, 9, 0)");
        h.gives(3, "stay(0, 0, 9, 0)");
        h.gives(4, "stay(0, 10, 12, 0)");
        h.gives(5, "stay(0, 12, 14, 0)");
        h.gives(6, "stay(1, 0, 29, 0)");
        h.gives(20, "bill(0, 50, 0, 29, 0)");
        h.gives(30, "bill(1, 50, 0, 29, 0)");
        h.gives(5, "bill(0, 10, 5, 9, 0)", "bill(0, 10, 10, 14, 0)");
        h.gives(0, "bill(0, 5, 15, 19, 0)");
        h.gives(1, "bill(0, 7, 14, 19, 0)", "bill(0, 7, 15, 20, 0)");
    }

    private static void billAsKnown() {
        promise(31, "of a BILL of days (from, to), as known on a day");
        House h = livedIn();
        h.gives(100, "bill(0, 100, 0, 9, 2)");
        h.gives(67, "bill(0, 100, 0, 9, 3)");
        h.done("strike(1, 6)");
        h.gives(67, "bill(0, 100, 0, 9, 5)");
        h.gives(100, "bill(0, 100, 0, 9, 6)");
    }

    private static void billLastPenny() {
        promise(31, "both parted to the last penny");
        House h = House.of(10);
        for (int p = 0; p < 10; p++) {
            h.answers(p, "stay(" + p + ", 0, 9, 0)");
        }
        for (int p = 0; p < 10; p++) {
            h.gives(p < 7 ? 10 : 9, "bill(" + p + ", 97, 0, 9, 0)");
            h.gives(p < 1 ? 1 : 0, "bill(" + p + ", 1, 0, 9, 0)");
        }
        // 7 is THERE alone one day more: 11 and ten times 10 days.
        h.answers(10, "stay(7, 10, 10, 0)");
        h.gives(2, "bill(7, 11, 0, 10, 0)");
        h.gives(1, "bill(6, 11, 0, 10, 0)", "bill(9, 11, 0, 10, 0)", "bill(0, 11, 0, 10, 0)");
        h.gives(0, "bill(0, 1, 0, 10, 0)");
        h.gives(1, "bill(7, 1, 0, 10, 0)");
    }

    private static void billLongest() {
        promise(31, "from a day to a day (0 to 9,999, both counted)");
        House h = House.of(10);
        for (int p = 0; p < 10; p++) {
            h.answers(p, "stay(" + p + ", 0, 9999, 0)");
        }
        for (int p = 0; p < 10; p++) {
            h.gives(p < 9 ? 100000000 : 99999999, "bill(" + p + ", 999999999, 0, 9999, 9999)");
        }
        // 60 STAYS of one, a day each.
        House many = House.of(2);
        for (int s = 0; s < 59; s++) {
            many.answers(s, "stay(0, " + 2 * s + ", " + 2 * s + ", 0)");
        }
        many.answers(59, "stay(1, 0, 0, 0)");
        many.gives(59, "bill(0, 60, 0, 9999, 0)");
        many.gives(1, "bill(1, 60, 0, 9999, 0)");
        many.gives(58, "bill(0, 58, 1, 9999, 0)");
    }

    private static void pointsRange() {
        promise(32, "POINTS (0 to 1,000,000 each)");
        House h = House.of(1);
        h.refuses(5, "points(0, -1)", "points(0, 1000001)", "points(0, least)", "points(0, most)");
        h.gives(0, "has(0)");
        h.done("points(0, 1000000)");
        h.gives(1000000, "has(0)");
        h.refuses(5, "points(0, -1)", "points(0, 1000001)");
        h.done("points(0, 1)");
        h.gives(1, "has(0)");
        h.done("points(0, 0)");
        h.gives(0, "has(0)");
    }

    private static void pointsPeople() {
        promise(32, "POINTS of one of the PEOPLE (0 at first) (2; 5).");
        House h = House.of(2);
        h.refuses(2, "points(-1, 5)", "points(2, 5)", "points(9, 5)", "points(10, 5)", "points(least, 5)", "points(most, 5)");
        h.done("points(1, 5)");
        h.each("has", 0, 5);
        h.gives(2, "person()");
        h.gives(0, "has(2)");
        House ten = House.of(10);
        ten.done("points(9, 5)");
        ten.refuses(2, "points(10, 5)");
        ten.each("has", 0, 0, 0, 0, 0, 0, 0, 0, 0, 5);
    }

    private static void pointsOrder() {
        promise(32, "POINTS of one of the PEOPLE (0 at first) (2; 5).");
        House h = House.of(1);
        h.refuses(2, "points(1, -1)", "points(1, 1000001)", "points(-1, -1)");
        h.refuses(5, "points(0, -1)");
    }

    private static void holdRange() {
        promise(33, "POINTS of all become those held at a sum (1 to 1,000,000)");
        House h = House.of(2);
        h.done("points(0, 5)", "points(1, 15)");
        h.refuses(5, "hold(0)", "hold(1000001)", "hold(-1)", "hold(least)", "hold(most)");
        h.each("has", 5, 15);
        h.done("hold(1000000)");
        h.each("has", 250000, 750000);
        h.done("hold(1)");
        h.each("has", 0, 1);
    }

    private static void holdAllZero() {
        promise(33, "9: all have 0");
        House h = House.of(2);
        h.refuses(9, "hold(1)", "hold(1000000)");
        h.done("points(1, 1)", "hold(8)");
        h.each("has", 0, 8);
        h.done("points(1, 0)");
        h.refuses(9, "hold(8)");
    }

    private static void holdOrder() {
        promise(33, "(5; 9: all have 0)");
        House h = House.of(2);
        h.refuses(5, "hold(0)", "hold(1000001)", "hold(-1)");
        h.refuses(9, "hold(1)");
    }

    private static void holdParts() {
        promise(33, "held at a sum are that sum parted by them");
        House h = House.of(4);
        h.done("points(0, 2)", "points(1, 3)", "points(2, 3)", "hold(4)");
        // 8, 12 and 12 eighths: one is left, to the first of the greater rests.
        h.each("has", 1, 2, 1, 0);
        h.done("hold(4)");
        h.each("has", 1, 2, 1, 0);
        h.done("points(3, 1)", "hold(3)");
        // 3, 6, 3 and 3 fifths: two are left behind 0 1 0 0, for the first two of the greater rests.
        h.each("has", 1, 1, 1, 0);
    }

    private static void holdLargest() {
        promise(33, "POINTS (0 to 1,000,000 each) held at a sum are that sum parted by them");
        House h = House.of(10);
        for (int p = 0; p < 10; p++) {
            h.done("points(" + p + ", 1000000)");
        }
        h.done("hold(1000000)");
        h.each("has", 100000, 100000, 100000, 100000, 100000, 100000, 100000, 100000, 100000, 100000);
        h.done("hold(999999)");
        h.each("has", 100000, 100000, 100000, 100000, 100000, 100000, 100000, 100000, 100000, 99999);
        h.done("hold(1)");
        h.each("has", 1, 0, 0, 0, 0, 0, 0, 0, 0, 0);
    }

    private static void hasPeople() {
        promise(34, "How many POINTS one of the PEOPLE has (2).");
        House h = House.of(2);
        h.done("points(0, 3)", "points(1, 4)");
        h.each("has", 3, 4);
        h.refuses(2, "has(-1)", "has(2)", "has(9)", "has(10)", "has(least)", "has(most)");
        House ten = House.of(10);
        ten.gives(0, "has(9)");
        ten.refuses(2, "has(10)");
    }

    private static void hasAtFirst() {
        promise(34, "How many POINTS one of the PEOPLE has (2).");
        House h = House.empty();
        h.refuses(2, "has(0)");
        h.gives(0, "person()", "has(0)");
        h.refuses(2, "has(1)");
    }
}
