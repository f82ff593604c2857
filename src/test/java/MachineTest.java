/** Promises 1 to 7: a new object, and the calls of machine and plate. */
public final class MachineTest {
    public static void main(String[] args) {
        newObject();
        setFeed();
        align();
        roll();
        watermarksOfARoll();
        fit();
        turn();
        runCountsSheetsAndPaper();
        errorAndRowsOff();
        driftOfTheFeed();
        pinsWearAndBreak();
        Check.end();
    }

    private static void newObject() {
        StampSheets x = new StampSheets();
        int[] counts = {0, 20, 0, 0, 0, 1, 0, 0, 0, 0};
        for (int what = 0; what < counts.length; what++) {
            Check.due("1 new: count(" + what + ")", x.count(what), counts[what]);
        }
        int[] told = {200, 0, 1, 201};
        for (int pin = 0; pin < 7; pin++) {
            for (int what = 0; what < told.length; what++) {
                Check.due("1 new: pin(" + pin + ", " + what + ")", x.pin(pin, what), told[what]);
            }
        }
        Check.due("1 new: share()", x.share(), 0.0);
        Check.noIndex("1 new: sheet(0, 0)", x, () -> x.sheet(0, 0));
        Check.noState("1 new: run()", x, x::run);
        StampSheets other = new StampSheets();
        other.turn(0, 0);
        other.fit(0, 5);
        Check.due("1 objects share nothing: count(8)", x.count(8), 0);
        Check.due("1 objects share nothing: pin(0, 0)", x.pin(0, 0), 200);
    }

    private static void setFeed() {
        StampSheets x = new StampSheets();
        Check.due("2 setFeed(30, 9)", x.setFeed(30, 9), 2000);
        Check.due("2 setFeed(10, -9)", x.setFeed(10, -9), 3009);
        Check.due("2 setFeed(19, 1)", x.setFeed(19, 1), 991);
        Check.due("2 count(1)", x.count(1), 19);
        Check.due("2 count(2)", x.count(2), 1);
        Check.due("2 the error stays", x.count(3), 0);
    }

    private static void align() {
        StampSheets x = new StampSheets();
        Check.due("3 align() of a new one", x.align(), 0);
        x.roll(400, 1);
        x.setFeed(22, 0);
        x.run();
        Check.due("3 align()", x.align(), 10);
        Check.due("3 align() again", x.align(), 0);
        Check.due("3 the feed stays", x.count(1), 22);
        x.run();
        Check.due("3 the error begins anew", x.count(3), 10);
        x.align();
        x.setFeed(17, 0);
        x.run();
        Check.due("3 align() below 0", x.align(), -15);
        Check.due("3 count(3)", x.count(3), 0);
    }

    private static void roll() {
        StampSheets x = new StampSheets();
        Check.due("4 roll(400, 9)", x.roll(400, 9), 0);
        Check.due("4 count(4)", x.count(4), 400);
        Check.due("4 count(5)", x.count(5), 9);
        Check.due("4 roll(1, 1)", x.roll(1, 1), 400);
        Check.due("4 roll(7, 4)", x.roll(7, 4), 1);
        x.run();
        Check.due("4 count(6)", x.count(6), 5);
        Check.due("4 roll(9, 2)", x.roll(9, 2), 2);
        Check.due("4 the rows begin at 0", x.count(6), 0);
    }

    private static void watermarksOfARoll() {
        StampSheets x = new StampSheets();
        x.roll(13, 3);
        x.run();
        x.run();
        x.roll(5, 3);
        x.run();
        x.roll(5, 9);
        x.run();
        // The second sheet has the rows 5 to 9 of its roll, the third one begins a roll.
        int[] firstRow = {0, 5, 0, 0};
        int[] step = {3, 3, 3, 9};
        for (int sheet = 0; sheet < 4; sheet++) {
            for (int row = 0; row < 5; row++) {
                for (int column = 0; column < 6; column++) {
                    int sum = firstRow[sheet] + row + column;
                    int due = sum == sum / step[sheet] * step[sheet] ? 0 : 16;
                    Check.due("4 watermark: faults(" + sheet + ", " + row + ", " + column + ")",
                            x.faults(sheet, row, column), due);
                }
            }
        }
    }

    private static void fit() {
        StampSheets x = new StampSheets();
        Check.due("5 fit(6, 1)", x.fit(6, 1), 0);
        Check.due("5 pin(6, 0)", x.pin(6, 0), 1);
        x.roll(400, 1);
        x.run();
        Check.due("5 pin(6, 2) broken", x.pin(6, 2), 0);
        Check.due("5 fit(6, 500)", x.fit(6, 500), 2);
        Check.due("5 pin(6, 0) of the new one", x.pin(6, 0), 500);
        Check.due("5 pin(6, 1) of the new one", x.pin(6, 1), 0);
        Check.due("5 pin(6, 2) of the new one", x.pin(6, 2), 1);
        Check.due("5 fit(0, 3)", x.fit(0, 3), 5);
        Check.due("5 the other pins stay", x.pin(1, 1), 5);
    }

    private static void turn() {
        StampSheets x = new StampSheets();
        x.roll(400, 1);
        Check.due("6 turn(0, 0)", x.turn(0, 0), true);
        Check.due("6 turn(4, 5)", x.turn(4, 5), true);
        Check.due("6 turn(2, 3)", x.turn(2, 3), true);
        Check.due("6 turn(2, 3) back", x.turn(2, 3), false);
        Check.due("6 count(8)", x.count(8), 2);
        x.run();
        Check.due("6 turn(0, 0) back", x.turn(0, 0), false);
        Check.due("6 a sheet that ran keeps its faults", x.faults(0, 0, 0), 8);
        Check.due("6 faults(0, 4, 5)", x.faults(0, 4, 5), 8);
        Check.due("6 faults(0, 2, 3)", x.faults(0, 2, 3), 0);
    }

    private static void runCountsSheetsAndPaper() {
        StampSheets x = new StampSheets();
        x.roll(4, 1);
        Check.noState("7 run() with 4 rows", x, x::run);
        x.roll(5, 1);
        Check.due("7 run() with 5 rows", x.run(), 0);
        Check.due("7 count(4)", x.count(4), 0);
        Check.noState("7 run() with 0 rows", x, x::run);
        x.roll(400, 1);
        for (int sheet = 1; sheet < 20; sheet++) {
            Check.due("7 run()", x.run(), sheet);
        }
        Check.due("7 count(0)", x.count(0), 20);
        Check.due("7 count(4)", x.count(4), 305);
        Check.due("7 count(6)", x.count(6), 95);
        Check.noState("7 run() with 20 sheets", x, x::run);
        x.roll(1, 1);
        Check.noState("7 run() with 20 sheets and 1 row", x, x::run);
    }

    /** Runs one sheet with the feed; row by row 1 stands for a row that is off. */
    private static void rowsOffAre(int feed, String due) {
        StampSheets x = new StampSheets();
        x.roll(400, 1);
        x.setFeed(feed, 0);
        x.run();
        StringBuilder off = new StringBuilder();
        for (int row = 0; row < 5; row++) {
            off.append(x.faults(0, row, 0));
            for (int column = 1; column < 6; column++) {
                Check.due("7 feed " + feed + ", row " + row + ": alike", x.faults(0, row, column), x.faults(0, row, 0));
            }
        }
        Check.due("7 rows off with feed " + feed, off.toString(), due);
    }

    private static void errorAndRowsOff() {
        rowsOffAre(20, "00000");
        rowsOffAre(21, "00000");
        rowsOffAre(22, "00011");
        rowsOffAre(23, "00111");
        rowsOffAre(26, "01111");
        rowsOffAre(27, "11111");
        rowsOffAre(19, "00000");
        rowsOffAre(18, "00011");
        rowsOffAre(17, "00111");
        rowsOffAre(14, "01111");
        rowsOffAre(13, "11111");
        StampSheets x = new StampSheets();
        x.roll(400, 1);
        x.setFeed(21, 0);
        x.run();
        x.roll(5, 1);
        x.run();
        Check.due("7 the error goes on: row 0", x.faults(1, 0, 3), 0);
        Check.due("7 the error goes on: row 1", x.faults(1, 1, 3), 1);
        Check.due("7 the error goes on", x.count(3), 10);
    }

    private static void driftOfTheFeed() {
        StampSheets x = new StampSheets();
        x.roll(400, 1);
        x.setFeed(20, 3);
        x.run();
        Check.due("7 drift comes behind the sheet: error", x.count(3), 0);
        Check.due("7 drift comes behind the sheet: feed", x.count(1), 23);
        x.run();
        Check.due("7 drift again: error", x.count(3), 15);
        Check.due("7 drift again: feed", x.count(1), 26);
        x.setFeed(22, 9);
        x.run();
        Check.due("7 the feed is held at 30", x.count(1), 30);
        x.setFeed(21, 9);
        x.run();
        Check.due("7 the feed just comes to 30", x.count(1), 30);
        x.setFeed(18, -9);
        x.run();
        Check.due("7 the feed is held at 10", x.count(1), 10);
        Check.due("7 the drift stays", x.count(2), -9);
    }

    private static void pinsWearAndBreak() {
        StampSheets x = new StampSheets();
        x.roll(400, 1);
        x.fit(0, 1);
        x.fit(2, 2);
        x.fit(3, 3);
        x.fit(6, 4);
        x.run();
        // By its strength s a pin still strikes the row s and is broken from the row s + 1 on.
        int[][] due = {
            {0, 0, 0, 0, 0, 0},
            {0, 0, 0, 0, 0, 0},
            {2, 0, 0, 0, 0, 0},
            {2, 4, 2, 0, 0, 0},
            {2, 4, 6, 2, 0, 0},
        };
        for (int row = 0; row < 5; row++) {
            for (int column = 0; column < 6; column++) {
                Check.due("7 pins: faults(0, " + row + ", " + column + ")",
                        x.faults(0, row, column), due[row][column]);
            }
        }
        Check.due("7 pin 6 broke in the last row", x.pin(6, 2), 0);
        x.run();
        Check.due("7 pin 6 is missing in the next sheet", x.faults(1, 0, 5), 4);
        Check.due("7 a broken pin wears no more", x.pin(0, 1), 2);
        Check.due("7 a whole pin wears on", x.pin(1, 1), 10);
        x.fit(3, 500);
        x.run();
        Check.due("7 a new pin strikes: its right", x.faults(2, 0, 3), 0);
        Check.due("7 a new pin strikes: its left", x.faults(2, 0, 2), 2);
    }
}
