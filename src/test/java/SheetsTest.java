/** Promises 8 to 12: what sheets, pins and counts tell, and tearing stamps off. */
public final class SheetsTest {
    public static void main(String[] args) {
        faultsTogether();
        tear();
        worthOfEachKind();
        sheet();
        invertedPairs();
        greatestBlock();
        pin();
        count();
        Check.end();
    }

    /** Row 4 is off, has no holes at pin 3, and stands inverted in column 3; step 9 leaves few watermarks. */
    private static StampSheets faulty() {
        StampSheets x = new StampSheets();
        x.roll(400, 9);
        x.fit(3, 3);
        x.turn(4, 3);
        x.turn(4, 5);
        x.turn(0, 1);
        x.setFeed(18, 0);
        x.run();
        return x;
    }

    private static void faultsTogether() {
        StampSheets x = faulty();
        Check.due("8 no watermark", x.faults(0, 0, 2), 16);
        Check.due("8 nothing", x.faults(0, 0, 0), 0);
        Check.due("8 inverted, no watermark", x.faults(0, 0, 1), 24);
        Check.due("8 off", x.faults(0, 3, 1), 17);
        Check.due("8 off, left, inverted, no watermark", x.faults(0, 4, 3), 27);
        Check.due("8 off, right, no watermark", x.faults(0, 4, 2), 21);
        Check.due("8 off, inverted, watermark", x.faults(0, 4, 5), 9);
        x.tear(0, 4, 3);
        Check.due("8 also if torn off", x.faults(0, 4, 3), 27);
    }

    private static void tear() {
        StampSheets x = Given.sheets(1);
        Check.due("9 tear(0, 4, 5)", x.tear(0, 4, 5), 1);
        Check.noState("9 tear(0, 4, 5) again", x, () -> x.tear(0, 4, 5));
        Check.due("9 only this one is off", x.sheet(0, 0), 29);
        x.run();
        Check.due("9 the same place of the next sheet", x.tear(1, 4, 5), 1);
    }

    private static void worthOfEachKind() {
        StampSheets x = faulty();
        Check.due("9 worth without faults", x.tear(0, 0, 0), 1);
        Check.due("9 worth inverted, no watermark", x.tear(0, 0, 1), 25);
        Check.due("9 worth without watermark", x.tear(0, 0, 2), 5);
        Check.due("9 worth of a row off", x.tear(0, 3, 1), 0);
        Check.due("9 worth off and inverted", x.tear(0, 4, 5), 0);
        StampSheets y = new StampSheets();
        y.roll(5, 1);
        y.turn(0, 0);
        y.turn(4, 1);
        y.fit(2, 1);
        y.run();
        Check.due("9 worth inverted", y.tear(0, 0, 0), 21);
        Check.due("9 worth without holes to its right", y.tear(0, 4, 1), 0);
        Check.due("9 worth without holes to its left", y.tear(0, 4, 2), 0);
    }

    private static void sheet() {
        StampSheets x = faulty();
        // Rows 0 to 2 are not off; of their 18 stamps one has a watermark at step 9: (0, 0).
        int[] before = {30, 1, 1 + 25 + 16 * 5, 2 + 2 + 1, 2, 1};
        for (int what = 0; what < 6; what++) {
            Check.due("10 sheet(0, " + what + ")", x.sheet(0, what), before[what]);
        }
        x.tear(0, 0, 0);
        x.tear(0, 0, 1);
        x.tear(0, 3, 0);
        x.tear(0, 4, 0);
        int[] behind = {26, 0, 80, 3, 2, 0};
        for (int what = 0; what < 6; what++) {
            Check.due("10 torn: sheet(0, " + what + ")", x.sheet(0, what), behind[what]);
        }
    }

    private static void invertedPairs() {
        StampSheets x = new StampSheets();
        x.roll(400, 1);
        x.turn(0, 5);
        x.turn(2, 2);
        x.turn(2, 3);
        x.turn(4, 1);
        x.run();
        // (0, 5) and (1, 0) are no pair, nor are two inverted ones.
        Check.due("10 inverted pairs", x.sheet(0, 3), 1 + 2 + 2);
        x.tear(0, 2, 1);
        Check.due("10 the upright one torn off", x.sheet(0, 3), 4);
        x.tear(0, 4, 1);
        Check.due("10 the inverted one torn off", x.sheet(0, 3), 2);
    }

    private static void greatestBlock() {
        StampSheets x = Given.sheets(1);
        Check.due("10 block of the whole sheet", x.sheet(0, 5), 30);
        x.tear(0, 0, 0);
        Check.due("10 block without a corner: 5 columns", x.sheet(0, 5), 25);
        x.tear(0, 4, 5);
        Check.due("10 block without two corners: 4 columns", x.sheet(0, 5), 20);
        x.tear(0, 2, 2);
        Check.due("10 block beside a hole: rows 0 to 3 of columns 3 to 5", x.sheet(0, 5), 12);
        x.tear(0, 2, 3);
        x.tear(0, 1, 4);
        x.tear(0, 3, 1);
        Check.due("10 block of scraps", x.sheet(0, 5), 6);
        for (int column = 0; column < 6; column++) {
            for (int row = 0; row < 5; row++) {
                tearIfLeft(x, row, column);
            }
        }
        Check.due("10 block of nothing", x.sheet(0, 5), 0);
        StampSheets y = new StampSheets();
        y.roll(400, 1);
        y.turn(2, 1);
        y.run();
        Check.due("10 block beside an inverted one", y.sheet(0, 5), 20);
    }

    private static void tearIfLeft(StampSheets x, int row, int column) {
        Check.outcome(() -> x.tear(0, row, column));
    }

    private static void pin() {
        StampSheets x = new StampSheets();
        x.roll(400, 1);
        x.fit(4, 7);
        int[][] due = {{7, 0, 1, 8}, {7, 5, 1, 3}, {7, 8, 0, 0}, {7, 8, 0, 0}};
        for (int ran = 0; ran < due.length; ran++) {
            for (int what = 0; what < 4; what++) {
                Check.due("11 pin(4, " + what + ") behind " + ran + " sheets", x.pin(4, what), due[ran][what]);
            }
            x.run();
        }
        x.fit(5, 9);
        x.run();
        x.run();
        Check.due("11 a broken pin strikes no more", x.pin(5, 3), 0);
        x.fit(5, 10);
        x.run();
        x.run();
        Check.due("11 whole with a wear like its strength", x.pin(5, 2), 1);
        Check.due("11 it still strikes the row in which it breaks", x.pin(5, 3), 1);
    }

    private static void count() {
        StampSheets x = new StampSheets();
        x.roll(37, 1);
        x.turn(0, 3);
        x.turn(3, 0);
        x.fit(1, 8);
        x.fit(5, 9);
        x.setFeed(21, -2);
        x.run();
        x.run();
        x.turn(3, 0);
        // Sheet 0 has 28 upright stamps of 1 and 2 inverted ones of 21. Behind it the error is 5 and the
        // feed 19: none is off. Sheet 1 lacks pin 1 in its row 4: two stamps are worth nothing.
        int[] due = {2, 17, -2, 0, 27, 1, 10, 2, 1, 28 + 42 + 26 + 42};
        for (int what = 0; what < due.length; what++) {
            Check.due("12 count(" + what + ")", x.count(what), due[what]);
        }
        x.tear(0, 0, 3);
        Check.due("12 count(9) without a torn one", x.count(9), 117);
    }
}
