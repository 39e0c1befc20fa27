/** Boundary cases of promises 7 to 10: PEOPLE and their STAYS. */
public final class PeopleBoundsTest extends Bounds {
    public static void main(String[] args) {
        personNumbers();
        personTooMany();
        stayPeople();
        stayDays();
        stayFromAboveTo();
        stayTold();
        stayTooMany();
        stayStruckOnesCount();
        stayOrder();
        strikeNumbers();
        strikeDays();
        strikeTwice();
        strikeOrder();
        strikeOneAlone();
        strikeOrNot();
        thereBothCounted();
        thereFirstAndLastDayOfAll();
        thereToldThenOrAhead();
        thereStruckThenOrAhead();
        thereStruckAheadOfTold();
        thereSeveralStays();
        thereTheirs();
        therePeople();
        thereDays();
        thereOrder();
        end(7, 10);
    }

    /** What comes in between changes nothing in the numbers. */
    private static void personNumbers() {
        promise(7, "One more: the number (7).");
        House h = House.empty();
        h.gives(0, "person()", "chore()", "stay(0, 0, 9, 0)");
        h.gives(1, "person()", "chore()", "stay(0, 0, 9, 0)", "there(0, 5, 0)");
        h.done("let(2, 5)", "turns(2, 0)", "paid(0, 4, 3)", "points(1, 9)");
        h.refuses(2, "has(2)");
        h.gives(2, "person()");
        h.done("settle()", "hold(3)");
        h.gives(3, "person()");
        for (int p = 4; p < 10; p++) {
            h.gives(p, "person()");
        }
        h.refuses(7, "person()");
    }

    private static void personTooMany() {
        promise(7, "PEOPLE, at most 10, numbered as they come.");
        House h = House.empty();
        for (int p = 0; p < 10; p++) {
            h.refuses(2, "has(" + p + ")");
            h.gives(p, "person()");
            h.gives(0, "has(" + p + ")");
        }
        h.refuses(7, "person()", "person()");
        h.gives(0, "has(9)");
        h.refuses(2, "has(10)");
    }

    private static void stayPeople() {
        promise(8, "2 none such of the PEOPLE, ROOMS, CHORES, STAYS.");
        House h = House.of(2);
        h.refuses(2, "stay(-1, 0, 0, 0)", "stay(2, 0, 0, 0)", "stay(least, 0, 0, 0)", "stay(most, 0, 0, 0)");
        h.gives(0, "stay(0, 0, 0, 0)");
        h.gives(1, "stay(1, 0, 0, 0)");
        h.gives(2, "person()");
        h.gives(2, "stay(2, 0, 0, 0)");
    }

    private static void stayDays() {
        promise(8, "of one from a day to a day (0 to 9,999, both counted)");
        House h = House.of(1);
        h.refuses(5, "stay(0, -1, 5, 0)", "stay(0, -1, -1, 0)", "stay(0, 0, 10000, 0)", "stay(0, 10000, 10000, 0)",
            "stay(0, least, 5, 0)", "stay(0, 5, most, 0)", "stay(0, least, most, 0)");
        h.gives(0, "stay(0, 0, 9999, 0)");
        h.gives(1, "stay(0, 0, 0, 0)");
        h.gives(2, "stay(0, 9999, 9999, 0)");
    }

    private static void stayFromAboveTo() {
        promise(8, "A STAY more: its number (2; 5: also from above to; 7).");
        House h = House.of(1);
        h.refuses(5, "stay(0, 6, 5, 0)", "stay(0, 1, 0, 0)", "stay(0, 9999, 0, 0)", "stay(0, 9999, 9998, 0)");
        h.gives(0, "stay(0, 5, 5, 0)");
        h.gives(1, "stay(0, 5, 6, 0)");
    }

    private static void stayTold() {
        promise(8, "TOLD on a day");
        House h = House.of(1);
        h.refuses(5, "stay(0, 3, 4, -1)", "stay(0, 3, 4, 10000)", "stay(0, 3, 4, least)", "stay(0, 3, 4, most)");
        h.gives(0, "stay(0, 3, 4, 0)");
        h.gives(1, "stay(0, 6, 7, 9999)");
        h.gives(1, "there(0, 3, 0)", "there(0, 6, 9999)");
        h.gives(0, "there(0, 6, 9998)");
    }

    private static void stayTooMany() {
        promise(8, "STAYS, at most 60");
        House h = House.of(3);
        for (int s = 0; s < 59; s++) {
            h.gives(s, "stay(" + s % 3 + ", 1, 2, 3)");
        }
        h.gives(59, "stay(1, 20, 20, 3)");
        h.refuses(7, "stay(0, 30, 30, 3)", "stay(1, 20, 20, 3)", "stay(2, 0, 0, 0)");
        h.gives(1, "there(1, 20, 3)");
        h.gives(0, "there(0, 30, 3)");
        h.refuses(2, "strike(60, 0)");
        h.done("strike(59, 3)");
        h.gives(0, "there(1, 20, 3)");
    }

    private static void stayStruckOnesCount() {
        promise(8, "7 one too many.");
        House h = House.of(1);
        for (int s = 0; s < 60; s++) {
            h.gives(s, "stay(0, 1, 2, 3)");
        }
        h.done("strike(0, 0)", "strike(59, 9999)");
        h.refuses(7, "stay(0, 1, 2, 3)");
    }

    private static void stayOrder() {
        promise(8, "(2; 5: also from above to; 7)");
        House h = House.of(1);
        h.refuses(2, "stay(1, 6, 5, 0)", "stay(1, -1, 5, 0)", "stay(-1, 0, 10000, 0)", "stay(1, 0, 5, -1)", "stay(1, 0, 5, 10000)");
        for (int s = 0; s < 60; s++) {
            h.gives(s, "stay(0, 1, 2, 3)");
        }
        h.refuses(2, "stay(1, 1, 2, 3)", "stay(-1, 1, 2, 3)", "stay(1, 2, 1, 3)");
        h.refuses(5, "stay(0, 2, 1, 3)", "stay(0, -1, 2, 3)", "stay(0, 1, 10000, 3)", "stay(0, 1, 2, -1)", "stay(0, 1, 2, 10000)");
        h.refuses(7, "stay(0, 1, 2, 3)");
    }

    private static void strikeNumbers() {
        promise(9, "2 none such of the PEOPLE, ROOMS, CHORES, STAYS.");
        House h = House.of(3);
        h.refuses(2, "strike(0, 5)");
        h.gives(0, "stay(0, 0, 9, 0)");
        h.gives(1, "stay(0, 0, 9, 0)");
        h.refuses(2, "strike(-1, 5)", "strike(2, 5)", "strike(59, 5)", "strike(60, 5)", "strike(least, 5)", "strike(most, 5)");
        h.done("strike(1, 5)", "strike(0, 5)");
    }

    private static void strikeDays() {
        promise(9, "A STAY is STRUCK on a day");
        House h = House.of(1);
        h.gives(0, "stay(0, 0, 9, 0)");
        h.gives(1, "stay(0, 20, 29, 0)");
        h.refuses(5, "strike(0, -1)", "strike(0, 10000)", "strike(0, least)", "strike(0, most)");
        h.done("strike(0, 0)", "strike(1, 9999)");
        h.gives(0, "there(0, 5, 0)", "there(0, 5, 9999)", "there(0, 25, 9999)");
        h.gives(1, "there(0, 25, 9998)", "there(0, 25, 0)");
    }

    private static void strikeTwice() {
        promise(9, "8 it is STRUCK already.");
        House h = House.of(1);
        h.gives(0, "stay(0, 0, 9, 0)");
        h.gives(1, "stay(0, 20, 29, 0)");
        h.gives(2, "stay(0, 40, 49, 0)");
        h.done("strike(0, 5)", "strike(1, 0)", "strike(2, 9999)");
        h.refuses(8, "strike(0, 5)", "strike(0, 4)", "strike(0, 6)", "strike(0, 0)", "strike(0, 9999)", "strike(1, 7)", "strike(2, 7)");
        h.gives(1, "there(0, 5, 4)");
        h.gives(0, "there(0, 5, 5)");
    }

    private static void strikeOrder() {
        promise(9, "(2; 5; 8)");
        House h = House.of(1);
        h.gives(0, "stay(0, 0, 9, 0)");
        h.done("strike(0, 5)");
        h.refuses(2, "strike(1, -1)", "strike(1, 10000)", "strike(-1, -1)");
        h.refuses(5, "strike(0, -1)", "strike(0, 10000)");
        h.refuses(8, "strike(0, 9999)");
    }

    private static void strikeOneAlone() {
        promise(9, "A STAY is STRUCK on a day");
        House h = House.of(2);
        h.gives(0, "stay(0, 0, 9, 0)");
        h.gives(1, "stay(0, 20, 29, 0)");
        h.gives(2, "stay(1, 0, 9, 0)");
        h.done("strike(1, 3)");
        h.gives(1, "there(0, 5, 3)", "there(1, 5, 3)");
        h.gives(0, "there(0, 25, 3)");
    }

    /** One that isn't STRUCK holds up to the last day that can be known; it can be STRUCK once, whenever. */
    private static void strikeOrNot() {
        promise(9, "STRUCK on one or not.");
        House h = House.of(1);
        h.gives(0, "stay(0, 0, 9999, 0)");
        h.gives(1, "there(0, 0, 0)", "there(0, 9999, 0)", "there(0, 0, 9999)", "there(0, 9999, 9999)");
        h.done("strike(0, 9999)");
        h.gives(1, "there(0, 0, 9998)");
        h.gives(0, "there(0, 0, 9999)", "there(0, 9999, 9999)");
        h.refuses(8, "strike(0, 9999)");
        h.gives(1, "stay(0, 5, 5, 9999)", "there(0, 5, 9999)");
    }

    private static void thereBothCounted() {
        promise(10, "both counted");
        House h = House.of(1);
        h.gives(0, "stay(0, 10, 12, 0)");
        h.gives(1, "stay(0, 20, 20, 0)");
        h.gives(0, "there(0, 9, 50)", "there(0, 13, 50)", "there(0, 19, 50)", "there(0, 21, 50)");
        h.gives(1, "there(0, 10, 50)", "there(0, 11, 50)", "there(0, 12, 50)", "there(0, 20, 50)");
    }

    private static void thereFirstAndLastDayOfAll() {
        promise(10, "(0 to 9,999, both counted)");
        House h = House.of(2);
        h.gives(0, "stay(0, 0, 0, 0)");
        h.gives(1, "stay(0, 9999, 9999, 9999)");
        h.gives(1, "there(0, 0, 0)", "there(0, 0, 9999)", "there(0, 9999, 9999)");
        h.gives(0, "there(0, 1, 0)", "there(0, 9998, 9999)", "there(0, 9999, 9998)", "there(1, 0, 0)", "there(1, 9999, 9999)");
    }

    private static void thereToldThenOrAhead() {
        promise(10, "if a STAY of theirs that has it was TOLD then or ahead");
        House h = House.of(1);
        h.gives(0, "stay(0, 5, 9, 7)");
        h.gives(0, "there(0, 8, 6)", "there(0, 8, 0)", "there(0, 5, 5)");
        h.gives(1, "there(0, 8, 7)", "there(0, 8, 8)", "there(0, 5, 7)", "there(0, 5, 9999)");
    }

    private static void thereStruckThenOrAhead() {
        promise(10, "and not STRUCK then or ahead.");
        House h = House.of(1);
        h.gives(0, "stay(0, 5, 9, 2)");
        h.gives(1, "there(0, 8, 9999)");
        h.done("strike(0, 7)");
        h.gives(1, "there(0, 5, 6)", "there(0, 9, 6)", "there(0, 5, 2)");
        h.gives(0, "there(0, 5, 7)", "there(0, 9, 7)", "there(0, 5, 8)", "there(0, 5, 9999)", "there(0, 5, 1)");
    }

    private static void thereStruckAheadOfTold() {
        promise(10, "As known on a day one is THERE on a day");
        House h = House.of(1);
        h.gives(0, "stay(0, 5, 9, 7)");
        h.gives(1, "stay(0, 20, 29, 7)");
        h.done("strike(0, 7)", "strike(1, 6)");
        h.gives(0, "there(0, 5, 6)", "there(0, 5, 7)", "there(0, 5, 8)", "there(0, 25, 6)", "there(0, 25, 7)", "there(0, 25, 8)");
    }

    private static void thereSeveralStays() {
        promise(10, "if a STAY of theirs that has it was TOLD then or ahead, and not STRUCK then or ahead.");
        House h = House.of(1);
        h.gives(0, "stay(0, 5, 9, 0)");
        h.gives(1, "stay(0, 9, 12, 4)");
        h.gives(2, "stay(0, 1, 20, 8)");
        h.done("strike(0, 3)");
        h.gives(1, "there(0, 9, 2)", "there(0, 9, 4)", "there(0, 5, 8)", "there(0, 20, 8)");
        h.gives(0, "there(0, 9, 3)", "there(0, 5, 4)", "there(0, 5, 7)", "there(0, 13, 7)");
        h.done("strike(2, 8)");
        h.gives(1, "there(0, 9, 8)", "there(0, 12, 8)");
        h.gives(0, "there(0, 5, 8)", "there(0, 20, 8)");
        h.done("strike(1, 9)");
        h.gives(1, "there(0, 9, 8)");
        h.gives(0, "there(0, 9, 9)");
    }

    private static void thereTheirs() {
        promise(10, "a STAY of theirs");
        House h = House.of(10);
        h.gives(0, "stay(0, 5, 9, 0)");
        h.gives(1, "stay(9, 5, 9, 0)");
        h.gives(1, "there(0, 5, 0)", "there(9, 5, 0)");
        h.gives(0, "there(1, 5, 0)", "there(8, 5, 0)");
        h.done("strike(0, 1)");
        h.gives(1, "there(9, 5, 1)");
        h.gives(0, "there(0, 5, 1)");
    }

    private static void therePeople() {
        promise(10, "Whether one is THERE on a day, as known on a day: 1 or 0 (2; 5).");
        House h = House.of(2);
        h.gives(0, "stay(0, 0, 9, 0)");
        h.refuses(2, "there(-1, 0, 0)", "there(2, 0, 0)", "there(10, 0, 0)", "there(least, 0, 0)", "there(most, 0, 0)");
        h.gives(1, "there(0, 0, 0)");
        h.gives(0, "there(1, 0, 0)");
    }

    private static void thereDays() {
        promise(10, "5 a number that can't be.");
        House h = House.of(1);
        h.gives(0, "stay(0, 0, 9999, 0)");
        h.gives(1, "there(0, 0, 0)", "there(0, 9999, 0)", "there(0, 0, 9999)", "there(0, 9999, 9999)");
        h.refuses(5, "there(0, -1, 0)", "there(0, 10000, 0)", "there(0, 0, -1)", "there(0, 0, 10000)", "there(0, least, 0)",
            "there(0, most, 0)", "there(0, 0, least)", "there(0, 0, most)");
    }

    private static void thereOrder() {
        promise(10, "1 or 0 (2; 5)");
        House h = House.of(1);
        h.gives(0, "stay(0, 0, 9, 0)");
        h.refuses(2, "there(1, -1, 0)", "there(1, 0, 10000)", "there(-1, 10000, -1)");
    }
}
