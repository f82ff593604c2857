import java.math.BigInteger;
import java.util.ArrayList;
import java.util.List;

/** Promises 13 to 17, the sentences that name a boundary case: a test for each. */
public final class WhatWouldBeEdgesTest {
    public static void main(String[] args) {
        foresee();
        foreseenSheets();
        advise();
        like();
        share();
        digest();
        Check.end();
    }

    private static void foresee() {
        Check.sentence("13 how many would be run now, 1 to 20", WhatWouldBeEdgesTest::foresee1And20);
        Check.sentence("13 whatever sheets there are: 20", WhatWouldBeEdgesTest::foreseeWith20There);
        Check.sentence("13 whatever sheets there are: torn ones", WhatWouldBeEdgesTest::foreseeWithTornOnes);
        Check.sentence("13 however long the roll is: none", WhatWouldBeEdgesTest::foreseeWithoutARoll);
        Check.sentence("13 however long the roll is: too short", WhatWouldBeEdgesTest::foreseePastTheRoll);
        Check.sentence("13 Returns this (nothing is changed)", WhatWouldBeEdgesTest::foreseeChangesNothing);
        Check.sentence("13 Throws IllegalArgumentException if sheets is not 1 to 20", WhatWouldBeEdgesTest::foreseeNoSheets);
        Check.sentence("13 Throws IndexOutOfBoundsException if what is not 0 to 3", WhatWouldBeEdgesTest::foreseeNoAnswer);
        Check.sentence("13 Both: the one that is named first", WhatWouldBeEdgesTest::foreseeTheFirstException);
    }

    private static void foreseenSheets() {
        Check.sentence("13 stamps without any fault in them: none, all", WhatWouldBeEdgesTest::foreseeNoneAndAll);
        Check.sentence("13 their worth, added: of those with faults as well", WhatWouldBeEdgesTest::foreseeWorth);
        Check.sentence("13 broken pins then: in the last row", WhatWouldBeEdgesTest::foreseeLastRowOfAPin);
        Check.sentence("13 broken pins then: those that are broken now, too", WhatWouldBeEdgesTest::foreseeBrokenPins);
        Check.sentence("13 the error then: less than 0", WhatWouldBeEdgesTest::foreseeError);
        Check.sentence("13 the error then: with feeds held at 10 to 30", WhatWouldBeEdgesTest::foreseeHeldFeeds);
    }

    private static void advise() {
        Check.sentence("14 how many would be run now: 1, and 20", WhatWouldBeEdgesTest::advise1And20);
        Check.sentence("14 as foresee() has it: whatever sheets there are", WhatWouldBeEdgesTest::adviseWith20There);
        Check.sentence("14 as foresee() has it: with feeds held at 10 to 30", WhatWouldBeEdgesTest::adviseHeldFeeds);
        Check.sentence("14 the feed, 10 to 30: 10", WhatWouldBeEdgesTest::adviseTheLeast);
        Check.sentence("14 the feed, 10 to 30: 30", WhatWouldBeEdgesTest::adviseTheGreatest);
        Check.sentence("14 with which, set now: whatever it is", WhatWouldBeEdgesTest::adviseWhateverTheFeed);
        Check.sentence("14 of several the least", WhatWouldBeEdgesTest::adviseOfSeveral);
        Check.sentence("14 of several the least: no stamp with any", WhatWouldBeEdgesTest::adviseOfAllBad);
        Check.sentence("14 the most stamps without any fault: not the most worth", WhatWouldBeEdgesTest::adviseNotForWorth);
        Check.sentence("14 (nothing is changed)", WhatWouldBeEdgesTest::adviseChangesNothing);
        Check.sentence("14 Throws IllegalArgumentException if sheets is not 1 to 20", WhatWouldBeEdgesTest::adviseNoSheets);
    }

    private static void like() {
        Check.sentence("15 a set of faults, 0 to 31: 0", WhatWouldBeEdgesTest::likeNone);
        Check.sentence("15 a set of faults, 0 to 31: 31", WhatWouldBeEdgesTest::likeAll);
        Check.sentence("15 stamps of all sheets: no sheet, 20 sheets", WhatWouldBeEdgesTest::likeOfAllSheets);
        Check.sentence("15 that are not torn off", WhatWouldBeEdgesTest::likeTornOnes);
        Check.sentence("15 have just these faults: not these and others", WhatWouldBeEdgesTest::likeJustThese);
        Check.sentence("15 Throws IllegalArgumentException if mask is not 0 to 31", WhatWouldBeEdgesTest::likeNoMask);
    }

    private static void share() {
        Check.sentence("16 0 if none did", () -> Check.due("without sheets", Given.paper().share(), 0.0));
        Check.sentence("16 stamps without any fault: none, all", WhatWouldBeEdgesTest::shareOfNoneAndAll);
        Check.sentence("16 that are not torn off", WhatWouldBeEdgesTest::shareOfTornOnes);
        Check.sentence("16 divided by all stamps that ran", WhatWouldBeEdgesTest::shareOfAllThatRan);
    }

    private static void digest() {
        Check.sentence("17 A number d starts with 1069", WhatWouldBeEdgesTest::digestOfANewOne);
        Check.sentence("17 for each of its stamps its faults, and its worth", WhatWouldBeEdgesTest::digestOfASheet);
        Check.sentence("17 which wraps around as a 64-bit integer: with many numbers", WhatWouldBeEdgesTest::digestOf20Sheets);
    }

    private static void foresee1And20() {
        StampSheets x = Given.paper();
        Check.due("foresee(1, 0)", x.foresee(1, 0), 30);
        Check.due("foresee(20, 0)", x.foresee(20, 0), 600);
    }

    private static void foreseeWith20There() {
        StampSheets x = Given.sheets(20);
        x.setFeed(21, 0);
        Check.due("stamps without any fault", x.foresee(20, 0), 36);
        Check.due("the error", x.foresee(20, 3), 100);
        Check.due("sheets that are there", x.count(0), 20);
    }

    private static void foreseeWithTornOnes() {
        StampSheets x = Given.sheets(1);
        Given.tearAll(x, 0);
        Check.due("stamps without any fault", x.foresee(1, 0), 30);
        Check.due("their worth", x.foresee(1, 1), 30);
    }

    private static void foreseeWithoutARoll() {
        StampSheets x = new StampSheets();
        Check.due("stamps without any fault", x.foresee(20, 0), 600);
        Check.due("rows left", x.count(4), 0);
        Check.noState("run() after all", x, x::run);
    }

    private static void foreseePastTheRoll() {
        for (int rows = 1; rows <= 6; rows++) {
            StampSheets x = new StampSheets();
            x.roll(rows, 7);
            int due = 0;
            for (int place = 0; place < 60; place++) {
                int sum = place / 6 + place % 6;
                due += sum == 0 || sum == 7 || sum == 14 ? 1 : 0;
            }
            Check.due("watermarks of two sheets of a roll of " + rows, x.foresee(2, 0), due);
        }
        StampSheets y = new StampSheets();
        y.roll(5, 9);
        y.run();
        // r = 5 to 9: the sum is 9 in (0, 4), (1, 3), (2, 2), (3, 1) and (4, 0).
        Check.due("watermarks of a sheet behind the end of the roll", y.foresee(1, 0), 5);
    }

    private static void foreseeChangesNothing() {
        StampSheets x = Given.busy();
        StampSheets twin = Given.busy();
        for (int what = 0; what < 4; what++) {
            x.foresee(20, what);
            Check.due("digest() behind foresee(20, " + what + ")", x.digest(), twin.digest());
        }
        x.run();
        twin.run();
        Check.due("digest() a sheet later", x.digest(), twin.digest());
    }

    private static void foreseeNoSheets() {
        StampSheets x = Given.busy();
        Check.noArgumentOutside(1, 20, "foresee(.., 0)", x, sheets -> x.foresee(sheets, 0));
        Check.noArgument("foresee(-1, 3)", x, () -> x.foresee(-1, 3));
    }

    private static void foreseeNoAnswer() {
        StampSheets x = Given.busy();
        Check.noIndexOutside(0, 3, "foresee(1, ..)", x, what -> x.foresee(1, what));
        Check.noIndexOutside(0, 3, "foresee(20, ..)", x, what -> x.foresee(20, what));
    }

    private static void foreseeTheFirstException() {
        StampSheets x = Given.busy();
        Check.noArgumentOutside(1, 20, "foresee(.., 4)", x, sheets -> x.foresee(sheets, 4));
        Check.noArgumentOutside(1, 20, "foresee(.., -1)", x, sheets -> x.foresee(sheets, -1));
    }

    private static void foreseeNoneAndAll() {
        StampSheets x = Given.paper();
        Check.due("all", x.foresee(2, 0), 60);
        Given.turnAll(x);
        Check.due("none", x.foresee(2, 0), 0);
    }

    private static void foreseeWorth() {
        StampSheets x = Given.paper();
        Given.turnAll(x);
        Check.due("inverted ones", x.foresee(20, 1), 600 * 21);
        x.setFeed(27, 0);
        Check.due("rows off", x.foresee(20, 1), 0);
    }

    private static void foreseeLastRowOfAPin() {
        StampSheets x = Given.sheets(20);
        // The wear is 100, and 20 sheets more make it 200: as much as the strength, not more.
        Check.due("strength 200, 20 sheets", x.foresee(20, 2), 0);
        x.fit(1, 99);
        x.fit(2, 100);
        Check.due("strength 99, 20 sheets", x.foresee(20, 2), 1);
        Check.due("strength 99, 19 sheets", x.foresee(19, 2), 0);
        Check.due("the last row is the one in which it breaks", x.foresee(20, 0), 600);
    }

    private static void foreseeBrokenPins() {
        StampSheets x = Given.paper();
        x.fit(6, 1);
        x.run();
        x.fit(0, 1);
        Check.due("broken pins", x.foresee(1, 2), 2);
        // The column 5 has no holes to its right in 5 rows, the column 0 none to its left in 3.
        Check.due("stamps without any fault", x.foresee(1, 0), 22);
    }

    private static void foreseeError() {
        StampSheets x = Given.paper();
        x.setFeed(10, 0);
        Check.due("behind one sheet", x.foresee(1, 3), -50);
        Check.due("behind 20 sheets", x.foresee(20, 3), -1000);
        x.run();
        Check.due("behind one that ran, and one", x.foresee(1, 3), -100);
    }

    private static void foreseeHeldFeeds() {
        StampSheets x = new StampSheets();
        x.setFeed(25, 9);
        Check.due("25, 30, 30", x.foresee(3, 3), 25 + 50 + 50);
        x.setFeed(15, -9);
        Check.due("15, 10, 10", x.foresee(3, 3), -25 - 50 - 50);
    }

    private static void advise1And20() {
        StampSheets x = new StampSheets();
        // The feeds 19 to 21 leave no row of one sheet off; of two sheets only 20 does.
        Check.due("advise(1)", x.advise(1), 19);
        Check.due("advise(2)", x.advise(2), 20);
        Check.due("advise(20)", x.advise(20), 20);
    }

    private static void adviseWith20There() {
        StampSheets x = Given.sheets(20);
        Given.tearAll(x, 0);
        Given.tearAll(x, 19);
        Check.due("advise(1)", x.advise(1), 19);
        Check.due("advise(20)", x.advise(20), 20);
        x.roll(1, 1);
        Check.due("advise(20), without paper for a sheet", x.advise(20), 20);
    }

    private static void adviseHeldFeeds() {
        StampSheets x = Given.ranWith(13);
        x.setFeed(20, 9);
        // With 22 the error comes to -25; a feed held at 30 makes -15, -5 and 5 of it.
        Check.due("error -35, drift 9", x.advise(2), 22);
        StampSheets y = Given.ranWith(30);
        y.setFeed(20, -9);
        // With 11 the error comes to 5; a feed held at 10 makes -5 of it.
        Check.due("error 50, drift -9", y.advise(2), 11);
    }

    private static void adviseTheLeast() {
        // The error of 50 comes to 0 with a feed of 10 alone, and to 5 with 11.
        StampSheets x = Given.ranWith(30);
        Check.due("error 50", x.advise(1), 10);
        x.fit(0, 1);
        x.setFeed(21, 0);
        x.run();
        Check.due("error 55: with 10 it comes to 5", x.advise(1), 10);
    }

    private static void adviseTheGreatest() {
        StampSheets x = Given.ranWith(10);
        Check.due("error -50: with 29 it comes to -5", x.advise(1), 29);
        x.setFeed(19, 0);
        x.run();
        Check.due("error -55: with 30 it comes to -5", x.advise(1), 30);
    }

    private static void adviseWhateverTheFeed() {
        for (int feed = 10; feed <= 30; feed++) {
            StampSheets x = new StampSheets();
            x.setFeed(feed, 0);
            Check.due("with feed " + feed, x.advise(1), 19);
        }
    }

    private static void adviseOfSeveral() {
        // An error of 5 stays within 6 in all rows with 18 (to -5), 19 (to 0) and 20.
        Check.due("error 5", Given.ranWith(21).advise(1), 18);
        // An error of -5 does with 20, 21 (to 0) and 22 (to 5).
        Check.due("error -5", Given.ranWith(19).advise(1), 20);
    }

    private static void adviseOfAllBad() {
        StampSheets x = new StampSheets();
        Given.turnAll(x);
        Check.due("all inverted", x.advise(1), 10);
        StampSheets y = Given.ranWith(30);
        y.run();
        Check.due("an error too great for one sheet", y.advise(1), 10);
    }

    private static void adviseNotForWorth() {
        StampSheets x = new StampSheets();
        // Rows 3 and 4 have the upright stamps; ahead of them all are inverted, and worth more.
        for (int place = 0; place < 18; place++) {
            x.turn(place / 6, place % 6);
        }
        x.roll(400, 1);
        x.setFeed(23, 0);
        x.run();
        // The error is 15. With 18: 13, 11, 9, 7, 5; with 17: 12, 9, 6, 3, 0; with 16: 11, 7, 3, -1, -5.
        // With 15 the rows 1 to 4 stand at 5, 0, -5, -10: one upright row, and two inverted ones.
        Check.due("error 15", x.advise(1), 16);
    }

    private static void adviseChangesNothing() {
        StampSheets x = Given.busy();
        StampSheets twin = Given.busy();
        x.advise(20);
        Check.due("digest()", x.digest(), twin.digest());
        x.run();
        twin.run();
        Check.due("digest() a sheet later", x.digest(), twin.digest());
    }

    private static void adviseNoSheets() {
        StampSheets x = Given.busy();
        Check.noArgumentOutside(1, 20, "advise(..)", x, x::advise);
        Check.noArgument("advise(-1)", x, () -> x.advise(-1));
    }

    private static void likeNone() {
        StampSheets x = Given.sheets(2);
        x.turn(1, 1);
        x.run();
        Check.due("like(0)", x.like(0), 89);
    }

    private static void likeAll() {
        StampSheets x = Given.allFaults();
        Check.due("like(31)", x.like(31), 1);
        x.tear(1, 0, 3);
        Check.due("like(31) without it", x.like(31), 0);
    }

    private static void likeOfAllSheets() {
        StampSheets none = Given.paper();
        StampSheets all = Given.sheets(20);
        for (int mask = 0; mask < 32; mask++) {
            Check.due("no sheet: like(" + mask + ")", none.like(mask), 0);
            Check.due("20 sheets: like(" + mask + ")", all.like(mask), mask == 0 ? 600 : 0);
        }
    }

    private static void likeTornOnes() {
        StampSheets x = Given.sheets(20);
        Given.tearAll(x, 0);
        x.tear(19, 4, 5);
        Check.due("like(0)", x.like(0), 569);
        StampSheets y = Given.sheets(1);
        Given.tearAll(y, 0);
        Check.due("like(0) of a sheet torn up", y.like(0), 0);
    }

    private static void likeJustThese() {
        StampSheets x = new StampSheets();
        x.roll(5, 9);
        x.turn(0, 0);
        x.turn(0, 1);
        x.run();
        Check.due("inverted, with watermark", x.like(8), 1);
        Check.due("inverted, without watermark", x.like(24), 1);
        Check.due("no watermark alone", x.like(16), 27);
        Check.due("none", x.like(0), 1);
    }

    private static void likeNoMask() {
        StampSheets x = Given.busy();
        Check.noArgumentOutside(0, 31, "like(..)", x, x::like);
    }

    private static void shareOfNoneAndAll() {
        Check.due("all of 600", Given.sheets(20).share(), 1.0);
        StampSheets x = Given.paper();
        Given.turnAll(x);
        x.run();
        Check.due("none of 30", x.share(), 0.0);
    }

    private static void shareOfTornOnes() {
        StampSheets x = Given.sheets(1);
        x.tear(0, 0, 0);
        Check.due("29 of 30", x.share(), 29.0 / 30.0);
        StampSheets y = Given.sheets(1);
        Given.tearAll(y, 0);
        Check.due("a sheet torn up", y.share(), 0.0);
    }

    private static void shareOfAllThatRan() {
        StampSheets x = Given.sheets(2);
        Given.tearAll(x, 1);
        Check.due("30 of 60, of which 30 are torn off", x.share(), 0.5);
        x.turn(0, 0);
        x.run();
        Check.due("59 of 90", x.share(), 59.0 / 90.0);
    }

    private static void add(List<Integer> numbers, int... more) {
        for (int number : more) {
            numbers.add(number);
        }
    }

    /** The checksum of these numbers, without any bound, and then its last 64 bits. */
    private static long checksum(List<Integer> numbers) {
        BigInteger d = BigInteger.valueOf(1069);
        for (int number : numbers) {
            d = d.multiply(BigInteger.valueOf(31)).add(BigInteger.valueOf(number));
        }
        return d.longValue();
    }

    private static void digestOfANewOne() {
        List<Integer> numbers = new ArrayList<>();
        add(numbers, 0, 20, 0, 0, 0, 1, 0, 0, 0, 0);
        for (int pin = 0; pin < 7; pin++) {
            add(numbers, 200, 0, 1, 201);
        }
        Check.due("digest()", new StampSheets().digest(), checksum(numbers));
    }

    private static void digestOfASheet() {
        StampSheets x = new StampSheets();
        x.roll(13, 1);
        x.fit(3, 3);
        x.turn(0, 1);
        x.setFeed(18, -3);
        x.run();
        x.tear(0, 0, 1);
        x.tear(0, 2, 2);
        // The errors are -2, -4, -6, -8 and -10; pin 3 does not strike the row 4.
        List<Integer> numbers = new ArrayList<>();
        add(numbers, 1, 15, -3, -10, 8, 1, 5, 1, 1, 16);
        for (int pin = 0; pin < 3; pin++) {
            add(numbers, 200, 5, 1, 196);
        }
        add(numbers, 3, 4, 0, 0);
        for (int pin = 4; pin < 7; pin++) {
            add(numbers, 200, 5, 1, 196);
        }
        add(numbers, 28, 16, 16, 0, 2, 9);
        add(numbers, 0, 1, 8, 0, 0, 1, 0, 1, 0, 1, 0, 1);
        add(numbers, 0, 1, 0, 1, 0, 1, 0, 1, 0, 1, 0, 1);
        add(numbers, 0, 1, 0, 1, 0, 0, 0, 1, 0, 1, 0, 1);
        add(numbers, 1, 0, 1, 0, 1, 0, 1, 0, 1, 0, 1, 0);
        add(numbers, 1, 0, 1, 0, 5, 0, 3, 0, 1, 0, 1, 0);
        Check.due("digest()", x.digest(), checksum(numbers));
    }

    private static void digestOf20Sheets() {
        StampSheets x = Given.sheets(20);
        List<Integer> numbers = new ArrayList<>();
        add(numbers, 20, 20, 0, 0, 300, 1, 100, 0, 0, 600);
        for (int pin = 0; pin < 7; pin++) {
            add(numbers, 200, 100, 1, 101);
        }
        for (int sheet = 0; sheet < 20; sheet++) {
            add(numbers, 30, 30, 30, 0, 0, 30);
            for (int stamp = 0; stamp < 30; stamp++) {
                add(numbers, 0, 1);
            }
        }
        Check.due("digest()", x.digest(), checksum(numbers));
    }
}
