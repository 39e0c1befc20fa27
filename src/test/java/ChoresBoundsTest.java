/** Boundary cases of promises 17 to 24: CHORES. */
public final class ChoresBoundsTest extends Bounds {
    private static final int NONE = ChoreHouse.NONE;

    public static void main(String[] args) {
        choreTooMany();
        choreNobodyHasIt();
        choreMindedAtFirst();
        mindRange();
        mindNumbers();
        mindOrder();
        turnsHowMany();
        turnsFrom();
        turnsOrder();
        turnsLastAheadOfZero();
        turnsMindedLeast();
        turnsLesserOfLike();
        turnsUntilNoneIsLeft();
        turnsAnew();
        whoseNumbers();
        whoseNobody();
        burdenSums();
        burdenNumbers();
        enviesGreater();
        enviesMoreThanOne();
        enviesOfTheirOwn();
        enviesOfNothing();
        enviesNumbers();
        swapNoRing();
        swapMindsLess();
        swapNobodysChores();
        swapFewest();
        swapOfAll();
        swapSmallerBehindLarger();
        swapFirstOfSeveral();
        swapBeginsWithLeastChore();
        swapThirdChoreDecides();
        swapOneChoreEach();
        swapUntilNone();
        takeNumbers();
        takeNobody();
        takeFromOneToAnother();
        end(17, 24);
    }

    private static void choreTooMany() {
        promise(17, "CHORES, at most 24, numbered as they come");
        House h = House.empty();
        for (int c = 0; c < 24; c++) {
            h.refuses(2, "whose(" + c + ")");
            h.gives(c, "chore()");
        }
        h.refuses(7, "chore()", "chore()");
        h.refuses(10, "whose(23)");
        h.refuses(2, "whose(24)");
    }

    private static void choreNobodyHasIt() {
        promise(17, "A CHORE more: its number; nobody has it (7).");
        House h = House.of(2, 2);
        h.done("turns(2, 0)");
        h.gives(2, "chore()");
        h.owners(0, 1, NONE);
        h.gives(10, "burden(0)", "burden(1)");
    }

    private static void choreMindedAtFirst() {
        promise(17, "are MINDED by each of the PEOPLE (0 to 1,000; 10 at first)");
        House h = House.of(1, 1);
        h.gives(1, "person()");
        h.gives(1, "chore()");
        h.done("mind(0, 0, 3)");
        for (int c = 2; c < 24; c++) {
            h.gives(c, "chore()");
        }
        h.done("turns(1, 0)");
        h.gives(233, "burden(0)");
        h.done("turns(2, 1)");
        h.gives(120, "burden(1)");
        h.gives(2, "person()");
        h.done("take(0, 2)");
        h.gives(10, "burden(2)");
        h.done("take(23, 2)");
        h.gives(20, "burden(2)");
    }

    private static void mindRange() {
        promise(18, "(0 to 1,000; 10 at first)");
        House h = House.of(1, 1);
        h.done("take(0, 0)");
        h.gives(10, "burden(0)");
        h.refuses(5, "mind(0, 0, -1)", "mind(0, 0, 1001)", "mind(0, 0, least)", "mind(0, 0, most)");
        h.gives(10, "burden(0)");
        h.done("mind(0, 0, 1000)");
        h.gives(1000, "burden(0)");
        h.done("mind(0, 0, 0)");
        h.gives(0, "burden(0)");
    }

    private static void mindNumbers() {
        promise(18, "How much a CHORE is MINDED by one of the PEOPLE (2; 5).");
        House h = House.of(10, 24);
        h.done("mind(0, 0, 1)", "mind(9, 23, 2)", "mind(0, 23, 3)", "mind(9, 0, 4)");
        h.refuses(2, "mind(-1, 0, 5)", "mind(10, 0, 5)", "mind(0, -1, 5)", "mind(0, 24, 5)", "mind(least, 0, 5)",
            "mind(most, 0, 5)", "mind(0, least, 5)", "mind(0, most, 5)");
        h.done("take(0, 0)", "take(23, 9)");
        h.gives(1, "burden(0)");
        h.gives(2, "burden(9)");
        House few = House.of(2, 3);
        few.refuses(2, "mind(2, 0, 5)", "mind(0, 3, 5)", "mind(2, 3, 5)");
        few.done("mind(1, 2, 5)");
    }

    private static void mindOrder() {
        promise(18, "How much a CHORE is MINDED by one of the PEOPLE (2; 5).");
        House h = House.of(1, 1);
        h.refuses(2, "mind(1, 0, -1)", "mind(1, 0, 1001)", "mind(0, 1, -1)", "mind(0, 1, 1001)", "mind(-1, -1, -1)");
        h.refuses(5, "mind(0, 0, 1001)");
    }

    private static void turnsHowMany() {
        promise(19, "TURNS from one of PEOPLE 0 to m - 1 on (m at most all)");
        House h = House.of(3, 4);
        h.refuses(5, "turns(0, 0)", "turns(4, 0)", "turns(-1, 0)", "turns(10, 0)", "turns(least, 0)", "turns(most, 0)");
        h.owners(NONE, NONE, NONE, NONE);
        h.done("turns(3, 0)");
        h.owners(0, 1, 2, 0);
        h.refuses(5, "turns(0, 0)", "turns(4, 0)");
        h.done("turns(1, 0)");
        h.owners(0, 0, 0, 0);
        h.gives(3, "person()");
        h.done("turns(4, 0)");
        h.owners(0, 1, 2, 3);
        House ten = House.of(10, 1);
        ten.done("turns(10, 9)");
        ten.refuses(5, "turns(11, 9)");
        ten.owners(9);
    }

    private static void turnsFrom() {
        promise(19, "TURNS of the first m of the PEOPLE from one of them on");
        House h = House.of(4, 3);
        h.done("turns(3, 2)");
        h.owners(2, 0, 1);
        h.refuses(2, "turns(3, -1)", "turns(3, 3)", "turns(3, 4)", "turns(4, 4)", "turns(1, 1)", "turns(3, least)", "turns(3, most)");
        h.owners(2, 0, 1);
        h.done("turns(4, 3)");
        h.owners(3, 0, 1);
        h.done("turns(1, 0)");
    }

    private static void turnsOrder() {
        promise(19, "(2: none of the PEOPLE; 5: m; 2: none of those m; in this order)");
        House h = House.of(3, 3);
        // None of the PEOPLE, ahead of m.
        h.refuses(2, "turns(0, 3)", "turns(4, 3)", "turns(4, -1)", "turns(-1, -1)", "turns(most, most)");
        // m, ahead of none of those m: 0 of them have none, nor have fewer.
        h.refuses(5, "turns(0, 0)", "turns(0, 2)", "turns(-1, 2)", "turns(least, 2)", "turns(4, 2)");
        h.refuses(2, "turns(2, 2)", "turns(1, 2)");
        House nobody = House.empty();
        nobody.refuses(2, "turns(0, 0)", "turns(1, 0)", "turns(1, -1)");
    }

    private static void turnsLastAheadOfZero() {
        promise(19, "one after the other, by number, the last one ahead of 0, again and again");
        House h = House.of(10, 24);
        h.done("turns(10, 9)");
        int[] owners = new int[24];
        for (int c = 0; c < 24; c++) {
            owners[c] = (9 + c) % 10;
        }
        h.owners(owners);
        h.done("turns(10, 0)");
        for (int c = 0; c < 24; c++) {
            owners[c] = c % 10;
        }
        h.owners(owners);
        h.done("turns(3, 1)");
        for (int c = 0; c < 24; c++) {
            owners[c] = (1 + c) % 3;
        }
        h.owners(owners);
    }

    private static void turnsMindedLeast() {
        promise(19, "takes of the CHORES left the one MINDED least");
        House h = House.of(2, 4);
        h.minds(new int[] {1000, 999, 1, 0}, new int[] {0, 1, 999, 1000});
        h.done("turns(2, 0)");
        h.owners(1, 1, 0, 0);
        h.minds(new int[] {3, 2, 1, 0}, new int[] {3, 2, 1, 0});
        h.done("turns(2, 1)");
        h.owners(0, 1, 0, 1);
    }

    private static void turnsLesserOfLike() {
        promise(19, "(of like ones the lesser)");
        House h = House.of(2, 5);
        h.minds(new int[] {7, 5, 5, 5, 7}, new int[] {7, 5, 5, 5, 7});
        h.done("turns(2, 0)");
        h.owners(1, 0, 1, 0, 0);
    }

    private static void turnsUntilNoneIsLeft() {
        promise(19, "until none is left");
        House none = House.of(2);
        none.done("turns(2, 1)", "turns(1, 0)");
        none.gives(0, "burden(0)");
        House fewer = House.of(3, 2);
        fewer.done("turns(3, 1)");
        fewer.owners(1, 2);
        fewer.gives(0, "burden(0)");
        House most = House.of(1, 24);
        most.done("turns(1, 0)");
        for (int c = 0; c < 24; c++) {
            most.gives(0, "whose(" + c + ")");
        }
        most.gives(240, "burden(0)");
    }

    private static void turnsAnew() {
        promise(19, "all CHORES are taken anew");
        House h = House.of(3, 4);
        h.takes(2, 2, NONE, 0);
        h.done("turns(2, 1)");
        h.owners(1, 0, 1, 0);
        h.gives(0, "burden(2)");
        h.done("turns(2, 1)");
        h.owners(1, 0, 1, 0);
    }

    private static void whoseNumbers() {
        promise(20, "Who has a CHORE (2; 10).");
        House h = House.of(10, 24);
        h.done("take(0, 0)", "take(23, 9)");
        h.gives(0, "whose(0)");
        h.gives(9, "whose(23)");
        h.refuses(2, "whose(-1)", "whose(24)", "whose(least)", "whose(most)");
        House one = House.of(1, 1);
        one.done("take(0, 0)");
        one.refuses(2, "whose(1)", "whose(-1)");
    }

    private static void whoseNobody() {
        promise(20, "10 nobody has the CHORES.");
        House h = House.of(1, 3);
        h.refuses(10, "whose(0)", "whose(2)");
        h.done("turns(1, 0)");
        h.owners(0, 0, 0);
        h.done("take(1, -1)");
        h.owners(0, NONE, 0);
        h.refuses(10, "whose(1)");
        h.refuses(2, "whose(3)");
    }

    private static void burdenSums() {
        promise(21, "All that one has: BURDEN, what one MINDS of them together.");
        House h = House.of(2, 24);
        h.gives(0, "burden(0)", "burden(1)");
        for (int c = 0; c < 24; c++) {
            h.answers(1, "mind(1, " + c + ", 1000)");
            h.answers(1, "take(" + c + ", 1)");
        }
        h.gives(24000, "burden(1)");
        h.gives(0, "burden(0)");
        h.done("take(0, 0)", "take(23, -1)");
        h.gives(22000, "burden(1)");
        h.gives(10, "burden(0)");
    }

    private static void burdenNumbers() {
        promise(21, "BURDEN (2).");
        House h = House.of(2, 1);
        h.done("take(0, 1)");
        h.gives(0, "burden(0)");
        h.gives(10, "burden(1)");
        h.refuses(2, "burden(-1)", "burden(2)", "burden(10)", "burden(least)", "burden(most)");
        House ten = House.of(10);
        ten.gives(0, "burden(9)");
        ten.refuses(2, "burden(10)");
    }

    private static void enviesGreater() {
        promise(22, "One ENVIES another one, if their own BURDEN is greater than what they MIND of the other's CHORES");
        House h = House.of(2, 2);
        h.takes(0, 1);
        h.minds(new int[] {5, 5}, new int[] {0, 1000});
        h.gives(0, "envies(0, 1)");
        h.done("mind(0, 0, 6)");
        h.gives(1, "envies(0, 1)");
        h.done("mind(0, 0, 4)");
        h.gives(0, "envies(0, 1)");
        // By what they MIND themselves, not by what the other one MINDS.
        h.gives(1, "envies(1, 0)");
    }

    private static void enviesMoreThanOne() {
        promise(22, "by MORE THAN ONE, if even without the one of their own that they MIND most it would be greater");
        House h = House.of(2, 4);
        h.takes(0, 0, 0, 1);
        h.minds(new int[] {2, 9, 3, 5});
        // 14 against 5, and without the 9 it is 5 against 5.
        h.gives(1, "envies(0, 1)");
        h.done("mind(0, 3, 4)");
        h.gives(2, "envies(0, 1)");
        h.done("mind(0, 3, 13)");
        h.gives(1, "envies(0, 1)");
        h.done("mind(0, 3, 14)");
        h.gives(0, "envies(0, 1)");
        // Of two that are MINDED most one alone is left out.
        h.minds(new int[] {9, 9, 0, 8});
        h.gives(2, "envies(0, 1)");
        h.done("mind(0, 3, 9)");
        h.gives(1, "envies(0, 1)");
    }

    private static void enviesOfTheirOwn() {
        promise(22, "without the one of their own that they MIND most");
        House h = House.of(3, 5);
        h.takes(0, 0, 1, 2, NONE);
        // 8 against 3, and 4 against 3: what others have, or nobody, is not left out, however it is MINDED.
        h.minds(new int[] {4, 4, 3, 1000, 1000}, new int[] {1000, 1000, 1000, 1000, 1000});
        h.gives(2, "envies(0, 1)");
        h.gives(0, "envies(0, 2)");
        h.done("mind(0, 2, 4)");
        h.gives(1, "envies(0, 1)");
    }

    private static void enviesOfNothing() {
        promise(22, "Whether one ENVIES another one: 0 not, 1 by one CHORE at most, 2 by MORE THAN ONE");
        House h = House.of(2, 3);
        h.gives(0, "envies(0, 1)", "envies(1, 0)");
        h.done("take(0, 0)");
        h.gives(1, "envies(0, 1)");
        h.gives(0, "envies(1, 0)");
        h.done("take(1, 0)");
        h.gives(2, "envies(0, 1)");
        h.done("mind(0, 1, 0)");
        h.gives(1, "envies(0, 1)");
        h.done("mind(0, 0, 0)");
        h.gives(0, "envies(0, 1)");
        // What nobody has is nobody's BURDEN.
        h.done("mind(0, 2, 1000)");
        h.gives(0, "envies(0, 1)", "envies(1, 0)");
    }

    private static void enviesNumbers() {
        promise(22, "(2: like ones, too)");
        House h = House.of(2, 1);
        h.done("take(0, 0)");
        h.gives(1, "envies(0, 1)");
        h.gives(0, "envies(1, 0)");
        h.refuses(2, "envies(0, 0)", "envies(1, 1)", "envies(2, 2)", "envies(-1, -1)");
        h.refuses(2, "envies(-1, 0)", "envies(0, -1)", "envies(2, 0)", "envies(0, 2)", "envies(least, 0)", "envies(0, most)");
        House ten = House.of(10, 1);
        ten.done("take(0, 9)");
        ten.gives(1, "envies(9, 0)");
        ten.refuses(2, "envies(9, 10)", "envies(10, 9)");
    }

    private static void swapNoRing() {
        promise(23, "A SWAP is done: of how many PEOPLE (9: there is no RING).");
        House h = House.empty();
        h.refuses(9, "swap()");
        h.gives(0, "person()");
        h.gives(0, "chore()");
        h.gives(1, "chore()");
        h.refuses(9, "swap()");
        // One alone is no RING, however they MIND their two.
        h.takes(0, 0);
        h.minds(new int[] {0, 1000});
        h.refuses(9, "swap()");
        h.gives(1, "person()");
        h.refuses(9, "swap()");
    }

    private static void swapMindsLess() {
        promise(23, "so that each MINDS what comes less than what they give");
        House h = House.of(2, 2);
        h.takes(0, 1);
        h.refuses(9, "swap()");
        h.minds(new int[] {5, 4}, new int[] {5, 5});
        h.refuses(9, "swap()");
        h.minds(new int[] {5, 5}, new int[] {4, 5});
        h.refuses(9, "swap()");
        h.minds(new int[] {5, 4}, new int[] {6, 5});
        h.refuses(9, "swap()");
        h.minds(new int[] {5, 4}, new int[] {4, 5});
        h.gives(2, "swap()");
        h.owners(1, 0);
        h.refuses(9, "swap()");
        h.minds(new int[] {0, 1000}, new int[] {1000, 0});
        h.gives(2, "swap()");
        h.owners(0, 1);
    }

    private static void swapNobodysChores() {
        promise(23, "each giving one CHORE to the next one");
        House h = House.of(2, 4);
        h.takes(NONE, 0, NONE, 1);
        h.minds(new int[] {0, 9, 0, 9}, new int[] {0, 9, 0, 9});
        h.refuses(9, "swap()");
        h.minds(new int[] {0, 9, 0, 8}, new int[] {0, 8, 0, 9});
        h.gives(2, "swap()");
        h.owners(NONE, 1, NONE, 0);
    }

    private static void swapFewest() {
        promise(23, "A SWAP is the RING of the fewest PEOPLE");
        // A RING of four with the least CHORES, one of three, and one of two with the greatest.
        House h = House.of(9, 9);
        h.takes(0, 1, 2, 3, 4, 5, 6, 7, 8);
        h.done("mind(1, 0, 9)", "mind(2, 1, 9)", "mind(3, 2, 9)", "mind(0, 3, 9)");
        h.done("mind(5, 4, 9)", "mind(6, 5, 9)", "mind(4, 6, 9)");
        h.done("mind(8, 7, 9)", "mind(7, 8, 9)");
        h.gives(2, "swap()");
        h.owners(0, 1, 2, 3, 4, 5, 6, 8, 7);
        h.gives(3, "swap()");
        h.owners(0, 1, 2, 3, 5, 6, 4, 8, 7);
        h.gives(4, "swap()");
        h.owners(1, 2, 3, 0, 5, 6, 4, 8, 7);
        h.refuses(9, "swap()");
    }

    private static void swapOfAll() {
        promise(23, "A RING: PEOPLE, each unlike, 2 or more, each giving one CHORE to the next one, the last one to the first");
        House h = House.of(10, 24);
        for (int p = 0; p < 10; p++) {
            h.answers(1, "take(" + (14 + p) + ", " + p + ")");
            h.answers(1, "mind(" + p + ", " + (14 + (p + 9) % 10) + ", 9)");
        }
        h.gives(10, "swap()");
        for (int p = 0; p < 10; p++) {
            h.gives((p + 1) % 10, "whose(" + (14 + p) + ")");
        }
        h.refuses(9, "swap()");
    }

    private static void swapSmallerBehindLarger() {
        promise(23, "A SWAP is done: of how many PEOPLE");
        House h = House.of(6, 6);
        h.takes(0, 1, 2, 3, 4, 5);
        h.done("mind(1, 0, 9)", "mind(2, 1, 9)", "mind(3, 2, 9)", "mind(0, 3, 9)");
        h.gives(4, "swap()");
        h.owners(1, 2, 3, 0, 4, 5);
        // Those of the RING ahead have no part in the next one.
        h.done("mind(4, 5, 9)", "mind(5, 4, 9)");
        h.gives(2, "swap()");
        h.owners(1, 2, 3, 0, 5, 4);
        h.refuses(9, "swap()");
    }

    private static void swapFirstOfSeveral() {
        promise(23, "of several the first: by the CHORES given in the ring's order, the ring beginning with its least CHORE");
        // 0 1, 0 3, 2 1, 2 3 are all RINGS of two.
        House h = House.of(2, 4);
        h.takes(0, 1, 0, 1);
        h.minds(new int[] {9, 1, 9, 1}, new int[] {1, 9, 1, 9});
        h.gives(2, "swap()");
        h.owners(1, 0, 0, 1);
        // 2 3 alone is left.
        h.gives(2, "swap()");
        h.owners(1, 0, 1, 0);
        h.refuses(9, "swap()");
        // 0 2 is none, so 0 3 is ahead of 1 2.
        House k = House.of(2, 4);
        k.takes(0, 0, 1, 1);
        k.minds(new int[] {5, 9, 6, 1}, new int[] {1, 1, 9, 9});
        k.gives(2, "swap()");
        k.owners(1, 0, 1, 0);
        k.gives(2, "swap()");
        k.owners(1, 1, 0, 0);
    }

    private static void swapBeginsWithLeastChore() {
        promise(23, "the ring beginning with its least CHORE");
        // CHORES 5 4 3 of PEOPLE 0 1 2 make a RING, 0 1 2 of PEOPLE 3 4 5 another one.
        House h = House.of(6, 6);
        h.takes(5, 4, 3, 2, 1, 0);
        h.done("mind(1, 5, 9)", "mind(2, 4, 9)", "mind(0, 3, 9)");
        h.done("mind(4, 0, 9)", "mind(3, 1, 9)", "mind(5, 2, 9)");
        h.gives(3, "swap()");
        h.owners(4, 3, 5, 2, 1, 0);
        h.gives(3, "swap()");
        h.owners(4, 3, 5, 0, 2, 1);
        h.refuses(9, "swap()");
    }

    private static void swapThirdChoreDecides() {
        promise(23, "by the CHORES given in the ring's order");
        // 0 1 3 and 0 1 2 are RINGS of three.
        House h = House.of(4, 4);
        h.takes(0, 1, 2, 3);
        h.done("mind(1, 0, 9)", "mind(2, 1, 9)", "mind(3, 1, 9)", "mind(0, 2, 9)", "mind(0, 3, 9)");
        h.gives(3, "swap()");
        h.owners(1, 2, 0, 3);
        // 0 3 1 and 0 2 4: the second CHORE decides, though the third is less.
        House k = House.of(5, 5);
        k.takes(0, 1, 2, 3, 4);
        k.done("mind(3, 0, 9)", "mind(1, 3, 9)", "mind(0, 1, 9)", "mind(2, 0, 9)", "mind(4, 2, 9)", "mind(0, 4, 9)");
        k.gives(3, "swap()");
        k.owners(2, 1, 4, 3, 0);
    }

    private static void swapOneChoreEach() {
        promise(23, "each giving one CHORE to the next one");
        // Both would give all they have for the other's, but one CHORE each goes.
        House h = House.of(2, 6);
        h.takes(1, 1, 1, 0, 0, 0);
        h.minds(new int[] {1, 1, 1, 9, 9, 9}, new int[] {9, 9, 9, 1, 1, 1});
        h.gives(2, "swap()");
        h.owners(0, 1, 1, 1, 0, 0);
        // What came is MINDED less than all others: it is kept.
        h.gives(2, "swap()");
        h.owners(0, 0, 1, 1, 1, 0);
    }

    private static void swapUntilNone() {
        promise(23, "(9: there is no RING)");
        House h = House.of(3, 3);
        h.takes(0, 1, 2);
        // All want CHORE 1 alone.
        h.done("mind(0, 1, 0)", "mind(2, 1, 0)");
        h.refuses(9, "swap()");
        h.done("mind(1, 2, 9)");
        h.gives(2, "swap()");
        h.owners(0, 2, 1);
        h.refuses(9, "swap()");
    }

    private static void takeNumbers() {
        promise(24, "A CHORE goes to one of the PEOPLE, or to nobody (NONE) (2).");
        House h = House.of(2, 2);
        h.refuses(2, "take(-1, 0)", "take(2, 0)", "take(24, 0)", "take(0, 2)", "take(0, 10)", "take(0, -2)", "take(least, 0)",
            "take(most, 0)", "take(0, least)", "take(0, most)");
        h.done("take(0, 0)", "take(1, 1)");
        h.owners(0, 1);
        h.refuses(2, "take(0, 2)", "take(2, -1)", "take(-1, -1)", "take(2, 2)", "take(2, -2)");
        h.owners(0, 1);
        House most = House.of(10, 24);
        most.done("take(23, 9)");
        most.refuses(2, "take(24, 9)", "take(23, 10)");
        most.gives(9, "whose(23)");
    }

    private static void takeNobody() {
        promise(24, "or to nobody (NONE)");
        House h = House.of(1, 2);
        h.done("take(0, -1)");
        h.owners(NONE, NONE);
        h.takes(0, 0);
        h.done("take(1, -1)");
        h.owners(0, NONE);
        h.gives(10, "burden(0)");
        House nobody = House.of(0, 1);
        nobody.done("take(0, -1)");
        nobody.refuses(2, "take(0, 0)", "take(0, -2)");
    }

    private static void takeFromOneToAnother() {
        promise(24, "A CHORE goes to one of the PEOPLE");
        House h = House.of(2, 2);
        h.takes(0, 0);
        h.done("take(1, 1)");
        h.owners(0, 1);
        h.done("take(1, 1)");
        h.owners(0, 1);
        h.gives(10, "burden(0)", "burden(1)");
    }
}
