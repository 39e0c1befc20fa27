/** Boundary cases of promises 25 to 29: DEBTS. */
public final class DebtsBoundsTest extends Bounds {
    public static void main(String[] args) {
        paidWho();
        paidAmount();
        paidSet();
        paidSetAsPeopleCome();
        paidTooMany();
        paidOrder();
        paidParts();
        paidPennies();
        balanceOfNothing();
        balanceLargest();
        balanceMinusOne();
        balanceNumbers();
        fewestOfNone();
        fewestOfMostHeaps();
        fewestOfOneHeap();
        fewestCancelled();
        fewestOnlyAsks();
        planNumbers();
        planWhat();
        planOrder();
        planEmpty();
        planFirstPaysFirst();
        planLeastHeap();
        planMostHeapsAheadOfLeast();
        planHeapsAsTold();
        planOfLargest();
        planAnew();
        settleOfNothing();
        settleAll();
        settleNotedAreNone();
        end(25, 29);
    }

    private static void paidWho() {
        promise(25, "A payment is noted (2: who paid; 5: the amount, the set: none, or others; 7).");
        House h = House.of(2);
        h.refuses(2, "paid(-1, 1, 1)", "paid(2, 1, 1)", "paid(10, 1, 1)", "paid(least, 1, 1)", "paid(most, 1, 1)");
        h.done("paid(0, 1, 2)", "paid(1, 3, 1)");
        h.each("balance", -2, 2);
        House ten = House.of(10);
        ten.done("paid(9, 1, 1)");
        ten.refuses(2, "paid(10, 1, 1)");
    }

    private static void paidAmount() {
        promise(25, "one has paid an amount (1 to 1,000,000)");
        House h = House.of(2);
        h.refuses(5, "paid(0, 0, 2)", "paid(0, 1000001, 2)", "paid(0, -1, 2)", "paid(0, least, 2)", "paid(0, most, 2)");
        h.done("paid(0, 1, 2)");
        h.each("balance", 1, -1);
        h.done("paid(0, 1000000, 2)");
        h.each("balance", 1000001, -1000001);
    }

    private static void paidSet() {
        promise(25, "for some of the PEOPLE (a set: 1 for 0, 2 for 1, 4 for 2 ..)");
        House h = House.of(3);
        h.refuses(5, "paid(0, 6, 0)", "paid(0, 6, 8)", "paid(0, 6, 9)", "paid(0, 6, 15)", "paid(0, 6, 16)", "paid(0, 6, -1)",
            "paid(0, 6, -8)", "paid(0, 6, least)", "paid(0, 6, most)", "paid(0, 6, 1024)");
        h.done("paid(0, 6, 1)");
        h.each("balance", 0, 0, 0);
        h.done("paid(0, 6, 2)");
        h.each("balance", 6, -6, 0);
        h.done("paid(0, 6, 4)");
        h.each("balance", 12, -6, -6);
        h.done("paid(0, 6, 7)");
        h.each("balance", 16, -8, -8);
        h.done("paid(0, 6, 6)");
        h.each("balance", 22, -11, -11);
        House ten = House.of(10);
        ten.done("paid(0, 10, 1023)", "paid(0, 1, 512)");
        ten.each("balance", 10, -1, -1, -1, -1, -1, -1, -1, -1, -2);
        ten.refuses(5, "paid(0, 10, 1024)", "paid(0, 10, 1025)", "paid(0, 10, 2047)");
    }

    private static void paidSetAsPeopleCome() {
        promise(25, "the set: none, or others");
        House h = House.of(1);
        h.refuses(5, "paid(0, 5, 2)", "paid(0, 5, 3)");
        h.done("paid(0, 5, 1)");
        h.gives(1, "person()");
        h.done("paid(0, 5, 3)");
        h.refuses(5, "paid(0, 5, 4)");
        h.each("balance", 2, -2);
    }

    private static void paidTooMany() {
        promise(25, "DEBTS: payments noted, at most 200");
        House h = House.of(2);
        h.doneTimes(199, "paid(0, 2, 3)");
        h.done("paid(0, 7, 1)");
        h.refuses(7, "paid(0, 2, 3)", "paid(1, 1000000, 1)", "paid(0, 1, 1)");
        h.each("balance", 199, -199);
    }

    private static void paidOrder() {
        promise(25, "(2: who paid; 5: the amount, the set: none, or others; 7)");
        House h = House.of(2);
        h.refuses(2, "paid(2, 0, 1)", "paid(2, 1000001, 1)", "paid(2, 1, 0)", "paid(2, 1, 4)", "paid(-1, 0, 0)");
        h.refuses(5, "paid(1, 0, 0)");
        h.doneTimes(200, "paid(0, 2, 3)");
        h.refuses(2, "paid(2, 1, 1)", "paid(-1, 1, 1)", "paid(2, 0, 0)");
        h.refuses(5, "paid(0, 0, 1)", "paid(0, 1000001, 1)", "paid(0, 1, 0)", "paid(0, 1, 4)");
        h.refuses(7, "paid(0, 1, 1)");
    }

    private static void paidParts() {
        promise(25, "parted among these evenly, by pennies");
        House h = House.of(3);
        h.done("paid(2, 999999, 7)");
        h.each("balance", -333333, -333333, 666666);
        // Who paid need not be among them.
        h.done("paid(0, 10, 6)");
        h.each("balance", -333323, -333338, 666661);
    }

    private static void paidPennies() {
        promise(25, "what can't be parted so goes to the first ones, a penny each");
        House h = House.of(10);
        h.done("paid(9, 1, 1023)");
        h.each("balance", -1, 0, 0, 0, 0, 0, 0, 0, 0, 1);
        h.done("settle()", "paid(9, 9, 1023)");
        h.each("balance", -1, -1, -1, -1, -1, -1, -1, -1, -1, 9);
        h.done("settle()", "paid(9, 11, 1023)");
        h.each("balance", -2, -1, -1, -1, -1, -1, -1, -1, -1, 10);
        h.done("settle()", "paid(9, 19, 1023)");
        h.each("balance", -2, -2, -2, -2, -2, -2, -2, -2, -2, 18);
        // Of PEOPLE 1, 4 and 8: the first of those, not of all.
        h.done("settle()", "paid(0, 2, 274)");
        h.each("balance", 2, -1, 0, 0, -1, 0, 0, 0, 0, 0);
        h.done("settle()", "paid(0, 1000000, 274)");
        h.each("balance", 1000000, -333334, 0, 0, -333333, 0, 0, 0, -333333, 0);
    }

    private static void balanceOfNothing() {
        promise(26, "BALANCE: all that one has paid less all parts.");
        House h = House.of(2);
        h.each("balance", 0, 0);
        h.done("paid(0, 5, 1)");
        h.each("balance", 0, 0);
        h.done("paid(0, 5, 2)", "paid(1, 5, 1)");
        h.each("balance", 0, 0);
        h.gives(2, "person()");
        h.gives(0, "balance(2)");
    }

    private static void balanceLargest() {
        promise(26, "BALANCE: all that one has paid less all parts.");
        House h = House.of(10);
        h.doneTimes(200, "paid(9, 1000000, 1)");
        h.gives(200000000, "balance(9)");
        h.gives(-200000000, "balance(0)");
        h.gives(0, "balance(5)");
    }

    private static void balanceMinusOne() {
        promise(26, "A call with another STATUS than 0 gives NONE");
        House h = House.of(2);
        h.done("paid(1, 1, 1)");
        h.gives(-1, "balance(0)");
        h.refuses(2, "balance(2)");
    }

    private static void balanceNumbers() {
        promise(26, "BALANCE (2).");
        House h = House.of(2);
        h.done("paid(0, 4, 3)");
        h.each("balance", 2, -2);
        h.refuses(2, "balance(-1)", "balance(2)", "balance(9)", "balance(10)", "balance(least)", "balance(most)");
        House ten = House.of(10);
        ten.gives(0, "balance(9)");
        ten.refuses(2, "balance(10)");
    }

    private static void fewestOfNone() {
        promise(27, "FEWEST is the least number of such payments.");
        House h = House.empty();
        h.gives(0, "fewest()");
        h.gives(0, "person()", "fewest()");
        h.done("paid(0, 1000000, 1)");
        h.gives(0, "fewest()");
    }

    private static void fewestOfMostHeaps() {
        promise(27, "FEWEST is the least number of such payments.");
        House h = House.of(10);
        // Five pairs, each of another amount, then all of the same.
        for (int p = 0; p < 10; p += 2) {
            h.done("paid(" + p + ", " + (p + 1) + ", " + (2 << p) + ")");
            h.gives(p / 2 + 1, "fewest()");
        }
        h.done("settle()");
        for (int p = 0; p < 5; p++) {
            h.done("paid(" + p + ", 7, " + (32 << p) + ")");
        }
        h.gives(5, "fewest()");
    }

    private static void fewestOfOneHeap() {
        promise(27, "payments from PEOPLE with a BALANCE below 0 to others with one above, behind which all are 0");
        House h = House.of(10);
        h.done("paid(0, 9, 1022)");
        h.gives(9, "fewest()");
        // 1 2 4 8 16 .. : no part but the whole is 0.
        h.done("settle()");
        for (int p = 0; p < 9; p++) {
            h.done("paid(9, " + (1 << p) + ", " + (1 << p) + ")");
        }
        h.gives(9, "fewest()");
        // 6, 4, -5, -5 and -6, 6: one heap of four and one of two.
        h.done("settle()", "paid(0, 5, 4)", "paid(0, 1, 8)", "paid(1, 4, 8)", "paid(5, 6, 16)");
        h.gives(4, "fewest()");
    }

    private static void fewestCancelled() {
        promise(27, "SETTLING: payments from PEOPLE with a BALANCE below 0 to others with one above");
        House h = House.of(3);
        // 0 owes 1, 1 owes 2, 2 owes 0: netted nobody owes.
        h.done("paid(1, 5, 1)", "paid(2, 5, 2)");
        h.gives(1, "fewest()");
        h.done("paid(0, 5, 4)");
        h.gives(0, "fewest()");
        h.refuses(9, "plan(0, 0)");
    }

    /** Asked again and again it answers the same, of what is noted then, and changes nothing. */
    private static void fewestOnlyAsks() {
        promise(27, "FEWEST. ");
        House h = House.of(4);
        h.done("paid(0, 9, 14)");
        h.gives(3, "fewest()", "fewest()");
        h.each("balance", 9, -3, -3, -3);
        h.done("paid(1, 3, 1)");
        h.gives(2, "fewest()", "fewest()");
        h.each("balance", 6, 0, -3, -3);
        h.refuses(5, "paid(0, 0, 1)");
        h.gives(2, "fewest()");
        h.done("settle()");
        h.gives(0, "fewest()", "fewest()");
        h.done("paid(3, 1, 1)");
        h.gives(1, "fewest()");
    }

    private static void planNumbers() {
        promise(28, "Of payment k of the PLAN, what 0: who pays, 1: to whom, 2: how much (9; 5; in this order).");
        House h = House.of(3);
        h.done("paid(2, 5, 3)");
        h.plan(new long[] {0, 2, 3}, new long[] {1, 2, 2});
        h.refuses(9, "plan(-1, 0)", "plan(2, 0)", "plan(9, 0)", "plan(10, 0)", "plan(least, 0)", "plan(most, 0)");
        House ten = House.of(10);
        ten.done("paid(9, 9, 511)");
        ten.gives(8, "plan(8, 0)");
        ten.gives(9, "plan(8, 1)");
        ten.gives(1, "plan(8, 2)");
        ten.refuses(9, "plan(9, 0)", "plan(10, 0)");
    }

    private static void planWhat() {
        promise(28, "what 0: who pays, 1: to whom, 2: how much");
        House h = House.of(2);
        h.done("paid(0, 7, 2)");
        h.gives(1, "plan(0, 0)");
        h.gives(0, "plan(0, 1)");
        h.gives(7, "plan(0, 2)");
        h.refuses(5, "plan(0, -1)", "plan(0, 3)", "plan(0, least)", "plan(0, most)");
    }

    private static void planOrder() {
        promise(28, "(9; 5; in this order)");
        House h = House.of(2);
        h.refuses(9, "plan(0, 3)", "plan(0, -1)");
        h.done("paid(0, 7, 2)");
        h.refuses(9, "plan(1, 3)", "plan(1, -1)", "plan(-1, 3)", "plan(-1, -1)");
        h.refuses(5, "plan(0, 3)");
    }

    private static void planEmpty() {
        promise(28, "9 there is none such.");
        House h = House.empty();
        h.refuses(9, "plan(0, 0)", "plan(0, 1)", "plan(0, 2)", "plan(-1, 0)");
        House two = House.of(2);
        two.done("paid(0, 5, 1)");
        two.refuses(9, "plan(0, 0)");
    }

    private static void planFirstPaysFirst() {
        promise(28, "the first one below 0 pays the first one above it as much as can be, again and again");
        House h = House.of(4);
        // 3, -8, 7, -2: no part of them is 0 but all.
        h.done("paid(0, 3, 2)", "paid(2, 5, 2)", "paid(2, 2, 8)");
        h.plan(new long[] {1, 0, 3}, new long[] {1, 2, 5}, new long[] {3, 2, 2});
        // -8, 3, -2, 7: those above 0 by their numbers as well.
        h.done("settle()", "paid(1, 3, 1)", "paid(3, 5, 1)", "paid(3, 2, 4)");
        h.plan(new long[] {0, 1, 3}, new long[] {0, 3, 5}, new long[] {2, 3, 2});
        // -2, -8, 7, 3.
        h.done("settle()", "paid(2, 2, 1)", "paid(2, 5, 2)", "paid(3, 3, 2)");
        h.plan(new long[] {0, 2, 2}, new long[] {1, 2, 5}, new long[] {1, 3, 3});
    }

    private static void planLeastHeap() {
        promise(28, "of several ways the first: the HEAP of the least one being, as a set, the least number");
        House h = House.of(6);
        // 5, 5, 5, -5, -5, -5: 0 with 3, 1 with 4, 2 with 5.
        h.done("paid(0, 5, 8)", "paid(1, 5, 16)", "paid(2, 5, 32)");
        h.plan(new long[] {3, 0, 5}, new long[] {4, 1, 5}, new long[] {5, 2, 5});
        // -3, 1, 2, -3, 3: the set of 0 1 2 is 7, that of 0 4 is 17; both ways have two HEAPS.
        h.done("settle()", "paid(1, 1, 1)", "paid(2, 2, 1)", "paid(4, 3, 8)");
        h.plan(new long[] {0, 1, 1}, new long[] {0, 2, 2}, new long[] {3, 4, 3});
        // -3, 3, 1, 2, -3: 0 1 is the lesser set now.
        h.done("settle()", "paid(1, 3, 1)", "paid(2, 1, 16)", "paid(3, 2, 16)");
        h.plan(new long[] {0, 1, 3}, new long[] {4, 2, 1}, new long[] {4, 3, 2});
    }

    private static void planMostHeapsAheadOfLeast() {
        promise(28, "are parted in as many HEAPS as can be of which the BALANCES are 0 together");
        House h = House.of(6);
        // 4, -1, -3, 3, 1, -4: 0 1 2 is the least set with 0, but leaves one HEAP; 0 5, 1 4, 2 3 are three.
        h.done("paid(0, 4, 32)", "paid(3, 3, 4)", "paid(4, 1, 2)");
        h.plan(new long[] {5, 0, 4}, new long[] {1, 4, 1}, new long[] {2, 3, 3});
    }

    private static void planHeapsAsTold() {
        promise(28, "then that of the least one left, and so on); HEAP by HEAP, as they are told");
        House h = House.of(10);
        // PEOPLE 0 and 5 have BALANCE 0; 1 with 9, 2 with 8, 3 with 7, 4 with 6.
        h.done("paid(1, 4, 512)", "paid(8, 3, 4)", "paid(3, 2, 128)", "paid(6, 1, 16)");
        h.plan(new long[] {9, 1, 4}, new long[] {2, 8, 3}, new long[] {7, 3, 2}, new long[] {4, 6, 1});
        // Those of a HEAP pay one another alone, though others come first.
        h.done("paid(0, 9, 32)");
        h.plan(new long[] {5, 0, 9}, new long[] {9, 1, 4}, new long[] {2, 8, 3}, new long[] {7, 3, 2}, new long[] {4, 6, 1});
    }

    private static void planOfLargest() {
        promise(28, "what 0: who pays, 1: to whom, 2: how much");
        House h = House.of(10);
        h.doneTimes(200, "paid(9, 1000000, 1)");
        h.plan(new long[] {0, 9, 200000000});
    }

    private static void planAnew() {
        promise(28, "The PLAN of FEWEST: the PEOPLE with a BALANCE other than 0");
        House h = House.of(3);
        h.done("paid(0, 5, 2)");
        h.plan(new long[] {1, 0, 5});
        h.done("paid(0, 5, 4)");
        h.plan(new long[] {1, 0, 5}, new long[] {2, 0, 5});
        h.done("paid(1, 5, 1)");
        h.plan(new long[] {2, 0, 5});
        h.refuses(5, "paid(0, 5, 8)");
        h.plan(new long[] {2, 0, 5});
        h.done("settle()");
        h.plan();
    }

    private static void settleOfNothing() {
        promise(29, "The PLAN is done: all BALANCES are 0");
        House h = House.empty();
        h.done("settle()", "settle()");
        h.gives(0, "person()", "balance(0)", "fewest()");
        h.done("settle()");
        h.gives(0, "balance(0)");
    }

    private static void settleAll() {
        promise(29, "The PLAN is done: all BALANCES are 0");
        House h = House.of(10);
        h.done("paid(0, 1000000, 1023)", "paid(5, 999, 1022)", "paid(9, 1, 3)");
        h.done("settle()");
        h.each("balance", 0, 0, 0, 0, 0, 0, 0, 0, 0, 0);
        h.plan();
        h.done("settle()");
        h.each("balance", 0, 0, 0, 0, 0, 0, 0, 0, 0, 0);
    }

    private static void settleNotedAreNone() {
        promise(29, "(payments noted are none then)");
        House h = House.of(2);
        h.doneTimes(200, "paid(0, 3, 2)");
        h.answers(0, "paid(0, 3, 2)");
        h.answers(7, "status()");
        h.done("settle()");
        h.doneTimes(200, "paid(1, 3, 1)");
        h.each("balance", -600, 600);
        h.answers(0, "paid(0, 3, 2)");
        h.answers(7, "status()");
    }
}
