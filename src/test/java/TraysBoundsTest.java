/** Boundary cases of promises 3 to 6: TRAYS. */
public final class TraysBoundsTest extends Bounds {
    public static void main(String[] args) {
        trayNumbers();
        trayMissingAtFirst();
        traySorts();
        trayOfMost();
        trayOfNone();
        trayAllZero();
        trayAnew();
        trayOrder();
        writeCutsToEightBits();
        writeCutsToSixteenBits();
        writeCutsToThirtyTwoBits();
        writeKeepsSixtyFourBits();
        writePlaces();
        writeMissing();
        writeOrder();
        readTellsNone();
        readPlaces();
        readOrder();
        pourEnds();
        pourAllOfMost();
        pourNone();
        pourBelowZero();
        pourAsTheyWere();
        pourToAnother();
        pourSorts();
        pourMissing();
        pourOrder();
        pourFarOff();
        end(3, 6);
    }

    private static void trayNumbers() {
        promise(3, "TRAYS, 0 to 3");
        House h = House.empty();
        h.done("tray(0, 0, 1)", "tray(1, 0, 1)", "tray(2, 0, 1)", "tray(3, 0, 1)");
        h.refuses(1, "tray(-1, 0, 1)", "tray(4, 0, 1)", "tray(least, 0, 1)", "tray(most, 0, 1)");
        h.refuses(1, "write(-1, 0, 1)", "write(4, 0, 1)", "read(-1, 0)", "read(4, 0)", "part(-1, 1, 1)", "part(4, 1, 1)");
        h.refuses(1, "pour(-1, 0, 0, 0, 1)", "pour(4, 0, 0, 0, 1)", "pour(0, 0, -1, 0, 1)", "pour(0, 0, 4, 0, 1)");
    }

    /** One TRAY laid leaves the others MISSING, also one of no numbers is there. */
    private static void trayMissingAtFirst() {
        promise(3, "are MISSING at first, or rows of numbers of 8 bits (sort 0)");
        House h = House.empty();
        h.refuses(3, "read(0, 0)", "read(1, 0)", "read(2, 0)", "read(3, 0)");
        h.done("tray(2, 0, 0)");
        h.refuses(4, "read(2, 0)");
        h.refuses(3, "read(0, 0)", "read(1, 0)", "read(3, 0)");
        h.done("tray(0, 0, 1)");
        h.gives(0, "read(0, 0)");
        h.refuses(3, "read(1, 0)", "read(3, 0)");
    }

    private static void traySorts() {
        promise(3, "1 no such TRAY (or sort).");
        House h = House.empty();
        h.done("tray(0, 0, 1)", "tray(0, 1, 1)", "tray(0, 2, 1)", "tray(0, 3, 1)");
        h.refuses(1, "tray(0, -1, 1)", "tray(0, 4, 1)", "tray(0, least, 1)", "tray(0, most, 1)");
        // Nor is a TRAY there that was MISSING.
        h.refuses(1, "tray(1, 4, 1)", "tray(1, -1, 1)");
        h.refuses(3, "read(1, 0)");
    }

    private static void trayOfMost() {
        promise(3, "A TRAY is a row of so many numbers (at most 40; 5)");
        House h = House.empty();
        h.done("tray(0, 3, 39)");
        h.gives(0, "read(0, 38)");
        h.refuses(4, "read(0, 39)");
        h.done("tray(0, 3, 40)");
        h.gives(0, "read(0, 39)");
        h.refuses(4, "read(0, 40)");
        h.done("write(0, 39, 7)");
        h.refuses(5, "tray(0, 3, 41)", "tray(0, 3, 42)", "tray(0, 3, most)", "tray(1, 3, 41)");
        h.gives(7, "read(0, 39)");
        h.refuses(3, "read(1, 0)");
    }

    private static void trayOfNone() {
        promise(3, "6 below 0 (a TRAY's length).");
        House h = House.empty();
        h.done("tray(0, 2, 0)");
        h.refuses(4, "read(0, 0)", "write(0, 0, 1)", "part(0, 1, 1)");
        h.done("tray(0, 2, 1)", "write(0, 0, 5)");
        h.refuses(6, "tray(0, 2, -1)", "tray(0, 2, least)", "tray(1, 2, -1)");
        h.row(0, 5);
        h.refuses(3, "read(1, 0)");
    }

    private static void trayAllZero() {
        promise(3, "all 0");
        House h = House.empty();
        h.done("tray(0, 3, 40)");
        for (int place = 0; place < 40; place++) {
            h.answers(0, "read(0, " + place + ")");
            h.answers(1, "write(0, " + place + ", -1)");
        }
        h.done("tray(0, 3, 20)");
        // What lies behind a shorter row is 0 as well when the row is long again.
        h.done("tray(0, 3, 40)");
        for (int place = 0; place < 40; place++) {
            h.gives(0, "read(0, " + place + ")");
        }
    }

    private static void trayAnew() {
        promise(3, "A TRAY is a row of so many numbers");
        House h = House.empty();
        h.lay(0, 3, 1000, 2000);
        h.lay(1, 3, 3000);
        h.done("tray(0, 0, 3)");
        h.row(0, 0, 0, 0);
        h.done("write(0, 0, 1000)");
        h.gives(-24, "read(0, 0)");
        h.done("tray(0, 3, 1)", "write(0, 0, 1000)");
        h.row(0, 1000);
        h.row(1, 3000);
        h.refuses(3, "read(2, 0)", "read(3, 0)");
    }

    private static void trayOrder() {
        promise(3, "(1; 5; 6)");
        House h = House.empty();
        h.lay(0, 1, 9);
        h.refuses(1, "tray(4, 0, 41)", "tray(0, 4, 41)", "tray(-1, 0, 41)", "tray(0, -1, 41)", "tray(4, 4, 41)");
        h.refuses(1, "tray(4, 0, -1)", "tray(0, 4, -1)", "tray(-1, 0, -1)", "tray(0, -1, -1)", "tray(-1, -1, -1)");
        h.row(0, 9);
    }

    private static void writeCutsToEightBits() {
        promise(4, "numbers of 8 bits (sort 0)");
        cuts(0, 127, 127, 128, -128, -128, -128, -129, 127, 255, -1, 256, 0, -256, 0, -257, -1, Long.MAX_VALUE, -1,
            Long.MIN_VALUE, 0, 0x7fffffffffffff80L, -128);
    }

    private static void writeCutsToSixteenBits() {
        promise(4, "16 (1)");
        cuts(1, 32767, 32767, 32768, -32768, -32768, -32768, -32769, 32767, 65535, -1, 65536, 0, -65537, -1, 128, 128,
            Long.MAX_VALUE, -1, Long.MIN_VALUE, 0);
    }

    private static void writeCutsToThirtyTwoBits() {
        promise(4, "32 (2)");
        cuts(2, 2147483647L, 2147483647L, 2147483648L, -2147483648L, -2147483648L, -2147483648L, -2147483649L, 2147483647L,
            4294967295L, -1, 4294967296L, 0, -4294967297L, -1, 32768, 32768, Long.MAX_VALUE, -1, Long.MIN_VALUE, 0);
    }

    private static void writeKeepsSixtyFourBits() {
        promise(4, "or 64 (3), with sign; what is written is cut to these.");
        cuts(3, Long.MAX_VALUE, Long.MAX_VALUE, Long.MIN_VALUE, Long.MIN_VALUE, 2147483648L, 2147483648L, -2147483649L,
            -2147483649L, -1, -1, 0, 0, 4294967296L, 4294967296L);
    }

    /** Numbers by pairs: what is written, and what is there then. */
    private static void cuts(int sort, long... pairs) {
        House h = House.empty();
        h.lay(2, sort, 11, 22, 33);
        for (int i = 0; i < pairs.length; i += 2) {
            h.done("write(2, 1, " + pairs[i] + ")");
            h.gives(pairs[i + 1], "read(2, 1)");
        }
        h.gives(11, "read(2, 0)");
        h.gives(33, "read(2, 2)");
    }

    private static void writePlaces() {
        promise(4, "A number comes to a place of a TRAY");
        House h = House.empty();
        h.lay(0, 2, 0, 0, 0);
        h.lay(1, 2, 0, 0, 0, 0);
        h.done("write(0, 0, 1)");
        h.row(0, 1, 0, 0);
        h.done("write(0, 2, 3)");
        h.row(0, 1, 0, 3);
        h.row(1, 0, 0, 0, 0);
        h.refuses(4, "write(0, -1, 9)", "write(0, 3, 9)", "write(0, 39, 9)", "write(0, 40, 9)", "write(0, least, 9)",
            "write(0, most, 9)");
        h.done("tray(0, 2, 1)", "write(0, 0, 4)");
        h.refuses(4, "write(0, 1, 9)");
        h.done("tray(0, 2, 40)", "write(0, 39, 5)");
        h.refuses(4, "write(0, 40, 9)");
        h.done("tray(0, 2, 0)");
        h.refuses(4, "write(0, 0, 9)", "write(0, -1, 9)");
    }

    /** A refused tray leaves it MISSING, and what was refused shows in no number later. */
    private static void writeMissing() {
        promise(4, "3 the TRAY is MISSING.");
        House h = House.empty();
        h.refuses(3, "write(1, 0, 7)");
        h.refuses(5, "tray(1, 0, 41)");
        h.refuses(6, "tray(1, 0, -1)");
        h.refuses(3, "write(1, 0, 7)", "read(1, 0)", "part(1, 1, 1)");
        h.done("tray(1, 0, 2)");
        h.row(1, 0, 0);
        h.done("write(1, 0, 7)");
        h.row(1, 7, 0);
    }

    private static void writeOrder() {
        promise(4, "(1; 3; 4)");
        House h = House.empty();
        h.lay(0, 2, 6);
        h.refuses(1, "write(4, 0, 1)", "write(4, 1, 1)", "write(-1, -1, 1)");
        h.refuses(3, "write(1, 0, 1)", "write(1, 40, 1)", "write(1, -1, 1)");
        h.refuses(4, "write(0, 1, 1)");
        h.row(0, 6);
    }

    private static void readTellsNone() {
        promise(5, "STATUS tells NONE from -1");
        House h = House.empty();
        for (int sort = 0; sort < 4; sort++) {
            h.lay(sort, sort, -1);
            h.gives(-1, "read(" + sort + ", 0)");
            h.refuses(4, "read(" + sort + ", 1)");
        }
    }

    private static void readPlaces() {
        promise(5, "The number in a place of a TRAY");
        House h = House.empty();
        h.lay(3, 1, 5, 6, 7);
        h.gives(5, "read(3, 0)");
        h.gives(7, "read(3, 2)");
        h.refuses(4, "read(3, -1)", "read(3, 3)", "read(3, 39)", "read(3, 40)", "read(3, least)", "read(3, most)");
        h.done("tray(3, 1, 2)");
        h.refuses(4, "read(3, 2)");
        h.done("tray(3, 1, 0)");
        h.refuses(4, "read(3, 0)");
        h.done("tray(3, 1, 40)");
        h.gives(0, "read(3, 39)");
        h.refuses(4, "read(3, 40)");
    }

    private static void readOrder() {
        promise(5, "(1; 3; 4)");
        House h = House.empty();
        h.lay(0, 2, 6);
        h.refuses(1, "read(4, 0)", "read(-1, 0)", "read(4, -1)", "read(-1, 40)");
        h.refuses(3, "read(3, 0)", "read(3, -1)", "read(3, 40)");
        h.refuses(4, "read(0, 1)");
    }

    private static void pourEnds() {
        promise(6, "So many numbers from place i on of a TRAY come to place j on");
        House h = House.empty();
        h.lay(0, 2, 1, 2, 3, 4);
        h.lay(1, 2, 7, 8, 9);
        h.refuses(4, "pour(0, 2, 1, 0, 3)", "pour(0, 4, 1, 0, 1)", "pour(0, -1, 1, 0, 1)", "pour(0, 0, 1, 1, 3)",
            "pour(0, 0, 1, 3, 1)", "pour(0, 0, 1, -1, 1)", "pour(0, 0, 1, 0, 4)", "pour(1, 0, 0, 0, 4)");
        h.done("pour(0, 2, 1, 0, 2)");
        h.row(1, 3, 4, 9);
        h.done("pour(0, 0, 1, 1, 2)");
        h.row(1, 3, 1, 2);
        h.done("pour(0, 3, 1, 2, 1)");
        h.row(1, 3, 1, 4);
        h.done("pour(0, 0, 1, 0, 3)");
        h.row(1, 1, 2, 3);
        h.row(0, 1, 2, 3, 4);
    }

    private static void pourAllOfMost() {
        promise(6, "4 a place that the TRAY has not.");
        House h = House.empty();
        h.done("tray(0, 3, 40)", "tray(1, 3, 40)", "write(0, 0, 5)", "write(0, 39, 6)");
        h.refuses(4, "pour(0, 0, 1, 0, 41)", "pour(0, 1, 1, 0, 40)", "pour(0, 0, 1, 1, 40)", "pour(0, 40, 1, 0, 1)",
            "pour(0, 0, 1, 40, 1)");
        h.done("pour(0, 0, 1, 0, 40)");
        h.gives(5, "read(1, 0)");
        h.gives(6, "read(1, 39)");
    }

    private static void pourNone() {
        promise(6, "4 a place that the TRAY has not.");
        House h = House.empty();
        h.lay(0, 0, 1, 2);
        h.lay(1, 0, 3);
        h.done("pour(0, 0, 1, 0, 0)", "pour(0, 1, 1, 0, 0)", "pour(0, 0, 0, 1, 0)");
        h.row(0, 1, 2);
        h.row(1, 3);
        h.refuses(4, "pour(0, -1, 1, 0, 0)", "pour(0, 0, 1, -1, 0)", "pour(0, 3, 1, 0, 0)", "pour(0, 0, 1, 2, 0)");
        h.done("tray(2, 0, 0)", "tray(3, 0, 0)", "pour(2, 0, 3, 0, 0)", "pour(2, 0, 2, 0, 0)");
        h.refuses(4, "pour(2, 0, 3, 0, 1)", "pour(0, 0, 2, 0, 1)", "pour(2, 0, 0, 0, 1)");
    }

    private static void pourBelowZero() {
        promise(6, "asked in this order");
        House h = House.empty();
        h.lay(0, 0, 1, 2);
        h.done("pour(0, 0, 0, 1, 1)");
        h.refuses(6, "pour(0, 0, 0, 0, -1)", "pour(0, 1, 0, 1, -1)", "pour(0, 0, 0, 0, least)");
        h.row(0, 1, 1);
    }

    private static void pourAsTheyWere() {
        promise(6, "of another one, or the same, as they were");
        House h = House.empty();
        h.lay(0, 3, 1, 2, 3, 4, 5, 6);
        h.done("pour(0, 0, 0, 1, 5)");
        h.row(0, 1, 1, 2, 3, 4, 5);
        h.lay(0, 3, 1, 2, 3, 4, 5, 6);
        h.done("pour(0, 1, 0, 0, 5)");
        h.row(0, 2, 3, 4, 5, 6, 6);
        h.lay(0, 3, 1, 2, 3, 4, 5, 6);
        h.done("pour(0, 0, 0, 2, 4)");
        h.row(0, 1, 2, 1, 2, 3, 4);
        h.done("pour(0, 0, 0, 0, 6)");
        h.row(0, 1, 2, 1, 2, 3, 4);
        h.refuses(4, "pour(0, 0, 0, 1, 6)", "pour(0, 1, 0, 0, 6)");
    }

    private static void pourToAnother() {
        promise(6, "of another one, or the same, as they were");
        long[][] ends = {{-128, 127}, {-32768, 32767}, {-2147483648L, 2147483647L}, {Long.MIN_VALUE, Long.MAX_VALUE}};
        for (int sort = 0; sort < 4; sort++) {
            House h = House.empty();
            h.lay(3, sort, ends[sort]);
            h.lay(2, sort, 0, 0, 0);
            h.done("pour(3, 0, 2, 1, 2)");
            h.row(2, 0, ends[sort][0], ends[sort][1]);
            h.row(3, ends[sort]);
        }
    }

    private static void pourSorts() {
        promise(6, "11 TRAYS of unlike sorts.");
        for (int a = 0; a < 4; a++) {
            for (int b = 0; b < 4; b++) {
                House h = House.empty();
                h.lay(0, a, 1);
                h.lay(1, b, 2);
                if (a == b) {
                    h.done("pour(0, 0, 1, 0, 1)");
                    h.row(1, 1);
                } else {
                    h.refuses(11, "pour(0, 0, 1, 0, 1)", "pour(0, 0, 1, 0, 0)");
                }
            }
        }
    }

    private static void pourMissing() {
        promise(6, "3 (either)");
        House h = House.empty();
        h.lay(0, 0, 1);
        h.refuses(3, "pour(0, 0, 1, 0, 1)", "pour(1, 0, 0, 0, 1)", "pour(1, 0, 2, 0, 1)", "pour(1, 0, 1, 0, 1)",
            "pour(0, 0, 1, 0, 0)", "pour(1, 0, 0, 0, 0)");
    }

    private static void pourOrder() {
        promise(6, "1, 3 (either), 11, 6, 4, asked in this order.");
        House h = House.empty();
        h.lay(0, 0, 1, 2);
        h.lay(1, 1, 3, 4);
        h.lay(2, 0, 5, 6);
        // 1 ahead of 3, of 6, of 4; 3 is MISSING.
        h.refuses(1, "pour(4, 0, 3, 0, 1)", "pour(3, 0, 4, 0, 1)", "pour(-1, 0, 0, 0, -1)", "pour(0, 0, -1, 0, -1)",
            "pour(4, 9, 0, 0, 1)", "pour(0, 9, 4, 0, 1)");
        // 3 ahead of 11 (a MISSING TRAY has no sort), of 6, of 4.
        h.refuses(3, "pour(3, 0, 1, 0, 1)", "pour(1, 0, 3, 0, 1)", "pour(3, 0, 0, 0, -1)", "pour(0, 0, 3, 0, -1)",
            "pour(3, 9, 0, 0, 1)", "pour(0, 9, 3, 0, 1)", "pour(0, 0, 3, 9, 1)");
        // 11 ahead of 6, of 4.
        h.refuses(11, "pour(0, 0, 1, 0, -1)", "pour(0, 9, 1, 0, 1)", "pour(0, 0, 1, 9, 1)", "pour(0, -1, 1, -1, -1)");
        // 6 ahead of 4.
        h.refuses(6, "pour(0, 9, 2, 0, -1)", "pour(0, 0, 2, 9, -1)", "pour(0, -1, 2, -1, -1)", "pour(0, 2, 2, 2, least)");
        h.row(2, 5, 6);
    }

    private static void pourFarOff() {
        promise(6, "4 a place that the TRAY has not.");
        House h = House.empty();
        h.lay(0, 2, 1, 2, 3);
        h.lay(1, 2, 4, 5, 6);
        // Sums of these would wrap around.
        h.refuses(4, "pour(0, most, 1, 0, 1)", "pour(0, 0, 1, most, 1)", "pour(0, 1, 1, 0, most)", "pour(0, 0, 1, 1, most)",
            "pour(0, most, 1, most, most)", "pour(0, least, 1, 0, 1)", "pour(0, 0, 1, least, 1)", "pour(0, least, 1, least, most)",
            "pour(0, most, 1, 0, 0)", "pour(0, least, 1, 0, 0)");
    }
}
