/** Promises 13 to 17: what would be. */
public final class WhatWouldBeTest {
    public static void main(String[] args) {
        foresee();
        foreseeIsWhatRuns();
        advise();
        like();
        share();
        digest();
        Check.end();
    }

    private static void foresee() {
        StampSheets x = new StampSheets();
        // Without a roll the step is 1: each stamp would have a watermark.
        Check.due("13 without paper", x.foresee(20, 0), 600);
        Check.due("13 worth without paper", x.foresee(20, 1), 600);
        x.turn(1, 1);
        x.fit(0, 4);
        x.fit(6, 5);
        x.setFeed(21, 0);
        Check.due("13 foresee(1, 0)", x.foresee(1, 0), 29);
        Check.due("13 foresee(1, 1)", x.foresee(1, 1), 50);
        Check.due("13 foresee(1, 2)", x.foresee(1, 2), 1);
        Check.due("13 foresee(1, 3)", x.foresee(1, 3), 5);
        // In sheet 1 just row 0 is not off (error 6); pin 0 is broken, pin 6 strikes it still.
        Check.due("13 foresee(2, 0)", x.foresee(2, 0), 34);
        Check.due("13 foresee(2, 1)", x.foresee(2, 1), 55);
        Check.due("13 foresee(2, 2)", x.foresee(2, 2), 2);
        Check.due("13 foresee(20, 3)", x.foresee(20, 3), 100);
        Check.due("13 nothing is changed: error", x.count(3), 0);
        Check.due("13 nothing is changed: wear", x.pin(3, 1), 0);
        x.roll(1, 3);
        Check.due("13 less than a sheet of paper", x.foresee(1, 0), 10);
    }

    private static void foreseeIsWhatRuns() {
        StampSheets x = Given.busy();
        long before = x.digest();
        int[] seen = {x.foresee(6, 0), x.foresee(6, 1), x.foresee(6, 2), x.foresee(6, 3)};
        Check.due("13 nothing is changed", x.digest(), before);
        int faultless = 0;
        int worth = 0;
        for (int ran = 0; ran < 6; ran++) {
            int sheet = x.run();
            faultless += x.sheet(sheet, 1);
            worth += x.sheet(sheet, 2);
        }
        Check.due("13 foreseen 0", seen[0], faultless);
        Check.due("13 foreseen 1", seen[1], worth);
        Check.due("13 foreseen 2", seen[2], x.count(7));
        Check.due("13 foreseen 3", seen[3], x.count(3));
        while (x.count(0) < 20) {
            x.run();
        }
        Check.due("13 with 20 sheets there", x.foresee(1, 2), 2);
    }

    private static void advise() {
        StampSheets x = new StampSheets();
        // One sheet: 19, 20 and 21 leave no row off, and 19 is the least.
        Check.due("14 advise(1)", x.advise(1), 19);
        Check.due("14 advise(2)", x.advise(2), 20);
        x.setFeed(30, 2);
        // By sheets, 19 leaves 5, 5 and 2 rows that are not off, 20 just 5, 3 and none.
        Check.due("14 the drift counts", x.advise(3), 19);
        Check.due("14 nothing is changed", x.count(1), 30);
        x.roll(400, 1);
        x.run();
        // The error is 50: even 10 leaves but the last row within 6.
        Check.due("14 the error counts", x.advise(1), 10);
        x.align();
        x.setFeed(10, 0);
        x.run();
        x.setFeed(19, 0);
        x.run();
        // The error is -55: with 30 the last row is at -5, with 29 at -10.
        Check.due("14 the greatest feed is tried as well", x.advise(1), 30);
        for (int row = 0; row < 5; row++) {
            for (int column = 0; column < 6; column++) {
                x.turn(row, column);
            }
        }
        Check.due("14 all alike bad: the least", x.advise(20), 10);
        StampSheets y = Given.busy();
        long before = y.digest();
        y.advise(20);
        Check.due("14 nothing at all is changed", y.digest(), before);
    }

    private static void like() {
        StampSheets x = new StampSheets();
        Check.due("15 like(0) without sheets", x.like(0), 0);
        x.roll(400, 9);
        x.turn(0, 1);
        x.turn(4, 3);
        x.fit(3, 3);
        x.setFeed(18, 0);
        x.run();
        x.setFeed(20, 0);
        x.align();
        x.roll(400, 1);
        x.run();
        // Sheet 0, step 9: watermarks at (0, 0) and (4, 5); rows 3 and 4 off; pin 3 missing in row 4.
        // Sheet 1: pin 3 is missing in each row, its columns 2 and 3 lack holes.
        int[] due = new int[32];
        due[0] = 1 + 19;
        due[24] = 1;
        due[16] = 16;
        due[17] = 6 + 3;
        due[21] = 1;
        due[27] = 1;
        due[1] = 1;
        due[4] = 5;
        due[2] = 4;
        due[10] = 1;
        due[8] = 1;
        for (int mask = 0; mask < 32; mask++) {
            Check.due("15 like(" + mask + ")", x.like(mask), due[mask]);
        }
        x.tear(0, 0, 2);
        x.tear(1, 0, 2);
        Check.due("15 a torn one does not count: 16", x.like(16), 15);
        Check.due("15 a torn one does not count: 4", x.like(4), 4);
    }

    private static void share() {
        StampSheets x = new StampSheets();
        Check.due("16 without sheets", x.share(), 0.0);
        x.roll(400, 1);
        x.run();
        Check.due("16 all without faults", x.share(), 1.0);
        x.tear(0, 0, 0);
        Check.due("16 a torn one ran as well", x.share(), 29.0 / 30.0);
        x.turn(2, 2);
        x.run();
        Check.due("16 two sheets", x.share(), 58.0 / 60.0);
        x.setFeed(30, 0);
        x.run();
        Check.due("16 three sheets", x.share(), 58.0 / 90.0);
    }

    /** The checksum put together from what the other calls tell; worth[sheet][stamp] is due by hand. */
    private static long toldDigest(StampSheets x, int[][] worth) {
        long d = 1069L;
        for (int what = 0; what < 10; what++) {
            d = d * 31 + x.count(what);
        }
        for (int pin = 0; pin < 7; pin++) {
            for (int what = 0; what < 4; what++) {
                d = d * 31 + x.pin(pin, what);
            }
        }
        for (int sheet = 0; sheet < worth.length; sheet++) {
            for (int what = 0; what < 6; what++) {
                d = d * 31 + x.sheet(sheet, what);
            }
            for (int stamp = 0; stamp < 30; stamp++) {
                d = d * 31 + x.faults(sheet, stamp / 6, stamp % 6);
                d = d * 31 + worth[sheet][stamp];
            }
        }
        return d;
    }

    private static void digest() {
        StampSheets x = new StampSheets();
        Check.due("17 digest() of a new one", x.digest(), toldDigest(x, new int[0][]));
        x.roll(400, 1);
        x.turn(1, 0);
        x.turn(1, 1);
        x.run();
        x.tear(0, 1, 1);
        x.tear(0, 4, 5);
        x.setFeed(27, -9);
        x.run();
        int[][] worth = new int[2][30];
        java.util.Arrays.fill(worth[0], 1);
        worth[0][6] = 21;
        worth[0][7] = 0;
        worth[0][29] = 0;
        Check.due("17 digest() of two sheets", x.digest(), toldDigest(x, worth));
        Check.due("17 digest() changes nothing", x.digest(), toldDigest(x, worth));
    }
}
