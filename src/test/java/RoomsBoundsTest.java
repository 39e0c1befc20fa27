/** Boundary cases of promises 11 to 16: ROOMS and their PRICES. */
public final class RoomsBoundsTest extends Bounds {
    /** 100,000 by 1 to 6. */
    private static final long[][] MOST_RENT_BY = {{100000, 1}, {50000, 1}, {100000, 3}, {25000, 1}, {20000, 1}, {50000, 3}};

    public static void main(String[] args) {
        letRooms();
        letRent();
        letFewerPeople();
        letPeopleOfIt();
        letAllValuesZero();
        letRefusedKeeps();
        valueRange();
        valuePeopleAndRooms();
        valueWithoutLetting();
        valueOrder();
        roomGreatestTogether();
        roomOfLargestValues();
        roomFirstOfSeveral();
        roomOfOne();
        roomNumbers();
        priceTogetherRent();
        priceNobodyEnvies();
        priceDearest();
        priceByWayOfOthers();
        priceBelowZero();
        priceFurthestApart();
        priceNumbers();
        upperWithoutCommonDivisor();
        upperBelowZero();
        upperOfZero();
        upperToldLatest();
        lowerAboveZero();
        end(11, 16);
    }

    private static void letRooms() {
        promise(11, "A LETTING is of n ROOMS (1 to 6)");
        House h = House.of(10);
        h.refuses(5, "let(0, 0)", "let(7, 0)", "let(-1, 0)", "let(10, 0)", "let(least, 0)", "let(most, 0)");
        h.done("let(1, 0)");
        h.gives(0, "room(0)");
        h.refuses(2, "room(1)");
        h.refuses(5, "let(0, 0)", "let(7, 0)");
        h.done("let(6, 0)");
        h.gives(5, "room(5)");
        h.refuses(2, "room(6)", "price(6)");
    }

    private static void letRent() {
        promise(11, "at a RENT (0 to 100,000) in all");
        House h = House.of(2);
        h.refuses(5, "let(2, -1)", "let(2, 100001)", "let(2, least)", "let(2, most)");
        h.done("let(2, 0)");
        h.price(0, 0, 1);
        h.done("let(2, 100000)");
        h.price(0, 50000, 1);
        h.price(1, 50000, 1);
        h.refuses(5, "let(2, -1)", "let(2, 100001)");
        h.done("let(2, 99999)");
        h.price(1, 99999, 2);
    }

    private static void letFewerPeople() {
        promise(11, "(5: ROOMS, RENT, or fewer PEOPLE than ROOMS)");
        House h = House.empty();
        for (int n = 1; n <= 6; n++) {
            h.refuses(5, "let(" + n + ", 10)");
            h.gives(n - 1, "person()");
            h.done("let(" + n + ", 10)");
        }
        h.gives(6, "person()");
        h.refuses(5, "let(7, 10)");
        h.done("let(6, 10)", "let(1, 10)");
    }

    private static void letPeopleOfIt() {
        promise(11, "to PEOPLE 0 to n - 1");
        House h = House.of(3);
        h.done("let(2, 10)", "value(1, 0, 4)");
        h.refuses(2, "room(2)", "value(2, 0, 4)");
        // One more of the PEOPLE is not in a LETTING that was there ahead.
        h.gives(3, "person()");
        h.refuses(2, "room(2)", "room(3)", "price(2)", "value(2, 0, 4)", "value(0, 2, 4)");
        h.gives(0, "room(1)");
        h.done("let(4, 10)");
        h.gives(3, "room(3)");
    }

    private static void letAllValuesZero() {
        promise(11, "A LETTING: so many ROOMS, all VALUES 0");
        House h = House.of(6);
        h.done("let(6, 12)");
        h.values(backwards(6));
        for (int p = 0; p < 6; p++) {
            h.gives(5 - p, "room(" + p + ")");
        }
        h.done("let(2, 12)");
        h.gives(0, "room(0)");
        h.gives(1, "room(1)");
        // The VALUES of the ROOMS that a smaller LETTING had not are 0 as well.
        h.done("let(6, 12)");
        for (int p = 0; p < 6; p++) {
            h.gives(p, "room(" + p + ")");
            h.price(p, 2, 1);
        }
    }

    private static int[][] backwards(int n) {
        int[][] values = new int[n][n];
        for (int p = 0; p < n; p++) {
            values[p][n - 1 - p] = 100000;
        }
        return values;
    }

    private static void letRefusedKeeps() {
        promise(11, "A call with another STATUS than 0 gives NONE, or false, and changes nothing but STATUS.");
        House h = House.of(3);
        h.done("let(3, 90)");
        h.values(new int[] {50, 30, 10}, new int[] {50, 40, 0}, new int[] {40, 30, 20});
        h.refuses(5, "let(0, 7)", "let(4, 7)", "let(7, 7)", "let(1, -1)", "let(2, 100001)", "let(0, -1)");
        h.price(0, 40, 1);
        h.price(1, 30, 1);
        h.price(2, 20, 1);
    }

    private static void valueRange() {
        promise(12, "each tells for each ROOM a VALUE (0 to 100,000; 0 at first)");
        House h = House.of(2);
        h.done("let(2, 0)");
        h.price(1, 0, 1);
        h.refuses(5, "value(1, 1, -1)", "value(1, 1, 100001)", "value(1, 1, least)", "value(1, 1, most)");
        h.done("value(1, 1, 100000)");
        h.price(1, 50000, 1);
        h.refuses(5, "value(1, 1, -1)", "value(1, 1, 100001)");
        h.done("value(1, 1, 0)");
        h.price(1, 0, 1);
    }

    private static void valuePeopleAndRooms() {
        promise(12, "The VALUE of a ROOM to one of the PEOPLE of the LETTING (2; 5).");
        House h = House.of(10);
        h.done("let(6, 0)", "value(0, 0, 1)", "value(5, 5, 1)", "value(0, 5, 1)", "value(5, 0, 1)");
        h.refuses(2, "value(-1, 0, 1)", "value(6, 0, 1)", "value(9, 0, 1)", "value(0, -1, 1)", "value(0, 6, 1)",
            "value(least, 0, 1)", "value(most, 0, 1)", "value(0, least, 1)", "value(0, most, 1)", "value(6, 6, 1)");
        h.done("let(1, 0)", "value(0, 0, 1)");
        h.refuses(2, "value(1, 0, 1)", "value(0, 1, 1)", "value(5, 5, 1)");
    }

    private static void valueWithoutLetting() {
        promise(12, "one of the PEOPLE of the LETTING");
        House h = House.of(2);
        h.refuses(2, "value(0, 0, 1)", "value(1, 1, 1)");
        h.refuses(5, "let(3, 0)");
        h.refuses(2, "value(0, 0, 1)");
    }

    private static void valueOrder() {
        promise(12, "The VALUE of a ROOM to one of the PEOPLE of the LETTING (2; 5).");
        House h = House.of(3);
        h.refuses(2, "value(0, 0, -1)");
        h.done("let(2, 0)");
        h.refuses(2, "value(2, 0, -1)", "value(2, 0, 100001)", "value(0, 2, -1)", "value(0, 2, 100001)", "value(-1, -1, -1)");
        h.refuses(5, "value(1, 1, -1)");
    }

    private static void roomGreatestTogether() {
        promise(13, "BEST: to each one ROOM, so that the VALUES of all for theirs together are greatest");
        House h = House.of(3);
        h.done("let(3, 0)");
        // One by one ROOM 0, 1, 2 would be chosen: 10 and 0 and 5. By one more the others win.
        h.values(new int[] {10, 9, 0}, new int[] {2, 0, 0}, new int[] {0, 0, 5});
        h.gives(1, "room(0)");
        h.gives(0, "room(1)");
        h.gives(2, "room(2)");
        h.done("value(1, 0, 0)");
        h.gives(0, "room(0)");
        h.gives(1, "room(1)");
    }

    private static void roomOfLargestValues() {
        promise(13, "the VALUES of all for theirs together are greatest");
        House h = House.of(6);
        h.done("let(6, 0)");
        int[][] values = new int[6][6];
        for (int p = 0; p < 6; p++) {
            for (int r = 0; r < 6; r++) {
                values[p][r] = p + r == 5 ? 100000 : 99999;
            }
        }
        h.values(values);
        for (int p = 0; p < 6; p++) {
            h.gives(5 - p, "room(" + p + ")");
        }
    }

    private static void roomFirstOfSeveral() {
        promise(13, "of several the first: by PEOPLE the lesser ROOM");
        House h = House.of(6);
        h.done("let(6, 0)");
        for (int p = 0; p < 6; p++) {
            for (int r = 0; r < 6; r++) {
                h.answers(1, "value(" + p + ", " + r + ", 100000)");
            }
        }
        for (int p = 0; p < 6; p++) {
            h.gives(p, "room(" + p + ")");
        }
        // 1 2 0 and 2 1 0 are both best, and 0 has the lesser ROOM in the first.
        h.done("let(3, 0)");
        h.values(new int[] {0, 7, 7}, new int[] {0, 4, 4}, new int[] {9, 0, 0});
        h.gives(1, "room(0)");
        h.gives(2, "room(1)");
        h.gives(0, "room(2)");
        // By one the second is better.
        h.done("value(1, 1, 5)");
        h.gives(2, "room(0)");
        h.gives(1, "room(1)");
        h.gives(0, "room(2)");
        // 0 2 1, 1 0 2: the first of the PEOPLE decides, though the others have lesser ROOMS there.
        h.values(new int[] {5, 6, 0}, new int[] {1, 0, 2}, new int[] {0, 3, 3});
        h.gives(0, "room(0)");
        h.gives(2, "room(1)");
        h.gives(1, "room(2)");
    }

    private static void roomOfOne() {
        promise(13, "The ROOM of one of the PEOPLE in BEST (2).");
        House h = House.of(1);
        h.done("let(1, 100000)");
        h.gives(0, "room(0)");
        h.done("value(0, 0, 100000)");
        h.gives(0, "room(0)");
        h.price(0, 100000, 1);
    }

    private static void roomNumbers() {
        promise(13, "The ROOM of one of the PEOPLE in BEST (2).");
        House h = House.of(10);
        h.refuses(2, "room(0)", "room(9)");
        h.done("let(6, 0)");
        h.gives(0, "room(0)");
        h.gives(5, "room(5)");
        h.refuses(2, "room(-1)", "room(6)", "room(9)", "room(10)", "room(least)", "room(most)");
        h.done("let(2, 0)");
        h.refuses(2, "room(2)", "room(5)");
    }

    private static void priceTogetherRent() {
        promise(14, "PRICES: numbers, of all ROOMS together RENT");
        for (int n = 1; n <= 6; n++) {
            House h = House.of(6);
            h.done("let(" + n + ", 0)");
            for (int r = 0; r < n; r++) {
                h.price(r, 0, 1);
            }
            h.done("let(" + n + ", 60)");
            for (int r = 0; r < n; r++) {
                h.price(r, 60 / n, 1);
            }
            h.done("let(" + n + ", 100000)");
            for (int r = 0; r < n; r++) {
                h.price(r, MOST_RENT_BY[n - 1][0], MOST_RENT_BY[n - 1][1]);
            }
        }
    }

    private static void priceNobodyEnvies() {
        promise(14, "with which nobody ENVIES: the VALUE of one's own ROOM less its PRICE is not less than that of any other one"
            + " less that one's PRICE");
        House h = House.of(2);
        h.done("let(2, 10)");
        // ROOM 1 is worth 4 more than ROOM 0 to its own: at 3 by 7 both are alike to them, and the other one gains.
        h.values(new int[] {9, 5}, new int[] {2, 6});
        h.price(0, 3, 1);
        h.price(1, 7, 1);
        // It may be worth less to its own than ROOM 0: then it is cheaper.
        h.values(new int[] {9, 5}, new int[] {6, 4});
        h.price(0, 6, 1);
        h.price(1, 4, 1);
        h.values(new int[] {0, 0}, new int[] {0, 0});
        h.price(0, 5, 1);
        h.price(1, 5, 1);
    }

    private static void priceDearest() {
        promise(14, "Of such the ones told are those in which each other ROOM is dearest against ROOM 0.");
        House h = House.of(2);
        h.done("let(2, 0)");
        // Nothing but the one in ROOM 1 bounds it, whatever ROOM 0 is worth to its own.
        h.values(new int[] {100000, 0}, new int[] {0, 10});
        h.price(0, -5, 1);
        h.price(1, 5, 1);
        h.done("value(0, 0, 0)");
        h.price(0, -5, 1);
        h.price(1, 5, 1);
        h.done("value(1, 1, 11)");
        h.price(0, -11, 2);
        h.price(1, 11, 2);
        // With the ROOMS changed it is 0 who bounds ROOM 1.
        h.values(new int[] {3, 7}, new int[] {9, 5});
        h.gives(1, "room(0)");
        h.price(0, -2, 1);
        h.price(1, 2, 1);
    }

    private static void priceByWayOfOthers() {
        promise(14, "in which each other ROOM is dearest against ROOM 0.");
        House h = House.of(6);
        h.done("let(6, 15)");
        // ROOM 1 may be 1 dearer than ROOM 0, each next one 1 dearer than the one ahead, and against ROOM 0 alone 100.
        int[][] values = new int[6][6];
        for (int p = 0; p < 6; p++) {
            values[p][p] = 100;
            values[p][(p + 5) % 6] = p == 0 ? 0 : 99;
        }
        h.values(values);
        for (int r = 0; r < 6; r++) {
            h.price(r, r, 1);
        }
        // The same against the numbers: ROOM 5 by 1, ROOM 4 by 2 and so on.
        h.done("let(6, 15)");
        for (int p = 0; p < 6; p++) {
            h.answers(1, "value(" + p + ", " + p + ", 100)");
            if (p > 0) {
                h.answers(1, "value(" + p + ", " + (p + 1) % 6 + ", 99)");
            }
        }
        h.price(0, 0, 1);
        for (int r = 1; r < 6; r++) {
            h.price(r, 6 - r, 1);
        }
    }

    private static void priceBelowZero() {
        promise(14, "FRACTIONS; they may be below 0.");
        House h = House.of(3);
        h.done("let(3, 0)", "value(2, 2, 1)");
        h.price(0, -1, 3);
        h.price(1, -1, 3);
        h.price(2, 2, 3);
        h.done("let(3, 1)", "value(2, 2, 1)");
        h.price(0, 0, 1);
        h.price(2, 1, 1);
    }

    private static void priceFurthestApart() {
        promise(14, "The FRACTION is the PRICE of a ROOM");
        House h = House.of(6);
        h.done("let(6, 0)");
        for (int p = 1; p < 6; p++) {
            h.done("value(" + p + ", " + p + ", 100000)");
        }
        h.price(0, -250000, 3);
        for (int r = 1; r < 6; r++) {
            h.price(r, 50000, 3);
        }
        // All want ROOM 0 alone: each other one is 100,000 cheaper.
        h.done("let(6, 100000)");
        for (int p = 0; p < 6; p++) {
            h.done("value(" + p + ", 0, 100000)");
        }
        h.price(0, 100000, 1);
        for (int r = 1; r < 6; r++) {
            h.price(r, 0, 1);
        }
    }

    private static void priceNumbers() {
        promise(14, "The FRACTION is the PRICE of a ROOM (2).");
        House h = House.of(10);
        h.refuses(2, "price(0)");
        h.done("let(6, 30)");
        h.price(0, 5, 1);
        h.price(5, 5, 1);
        h.refuses(2, "price(-1)", "price(6)", "price(9)", "price(least)", "price(most)");
        h.done("let(1, 7)");
        h.price(0, 7, 1);
        h.refuses(2, "price(1)", "price(5)");
        h.answers(7, "upper()");
        h.answers(1, "lower()");
    }

    private static void upperWithoutCommonDivisor() {
        promise(15, "without a common divisor with the lower one");
        House h = House.of(6);
        long[][] sixths = {{1, 6}, {1, 3}, {1, 2}, {2, 3}, {5, 6}, {1, 1}, {7, 6}, {4, 3}};
        for (int rent = 1; rent <= sixths.length; rent++) {
            h.done("let(6, " + rent + ")");
            h.price(0, sixths[rent - 1][0], sixths[rent - 1][1]);
        }
        long[][] fourths = {{1, 4}, {1, 2}, {3, 4}, {1, 1}, {5, 4}, {3, 2}};
        for (int rent = 1; rent <= fourths.length; rent++) {
            h.done("let(4, " + rent + ")");
            h.price(3, fourths[rent - 1][0], fourths[rent - 1][1]);
        }
        h.done("let(5, 99999)");
        h.price(4, 99999, 5);
        h.done("let(5, 100000)");
        h.price(4, 20000, 1);
    }

    private static void upperBelowZero() {
        promise(15, "The upper number of the FRACTION told latest with STATUS 0");
        House h = House.of(6);
        h.done("let(6, 0)");
        long[][] sixths = {{-1, 6}, {-1, 3}, {-1, 2}, {-2, 3}, {-5, 6}, {-1, 1}, {-7, 6}};
        for (int k = 1; k <= sixths.length; k++) {
            h.done("value(1, 1, " + k + ")");
            h.price(0, sixths[k - 1][0], sixths[k - 1][1]);
        }
    }

    private static void upperOfZero() {
        promise(15, "without a common divisor with the lower one");
        House h = House.of(6);
        h.done("let(6, 1)");
        h.price(0, 1, 6);
        h.done("let(6, 0)");
        h.price(0, 0, 1);
        h.done("let(4, 3)", "value(1, 1, 3)");
        h.price(0, 0, 1);
        h.price(1, 3, 1);
    }

    private static void upperToldLatest() {
        promise(15, "the FRACTION told latest with STATUS 0");
        House h = House.of(2);
        h.done("let(2, 5)", "value(1, 1, 2)");
        h.price(0, 3, 2);
        h.price(1, 7, 2);
        h.refuses(2, "price(2)", "price(-1)");
        h.answers(7, "upper()");
        h.answers(2, "lower()");
        // What is changed behind it tells no FRACTION.
        h.done("value(1, 1, 4)", "let(1, 3)");
        h.gives(0, "room(0)");
        h.answers(7, "upper()");
        h.answers(2, "lower()");
        h.price(0, 3, 1);
    }

    private static void lowerAboveZero() {
        promise(16, "Its lower number, above 0.");
        House h = House.of(6);
        h.answers(1, "lower()");
        h.done("let(6, 0)", "value(1, 1, 1)");
        h.price(0, -1, 6);
        h.price(1, 5, 6);
        h.done("value(1, 1, 6)");
        h.price(0, -1, 1);
        h.done("value(1, 1, 0)");
        h.price(0, 0, 1);
        h.refuses(2, "price(6)");
        h.answers(1, "lower()");
    }
}
