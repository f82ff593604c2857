/** The sentences under "Terms" that name a boundary case: a test for each. */
public final class TermsEdgesTest {
    public static void main(String[] args) {
        Check.sentence("An object is used for at most 512 calls", TermsEdgesTest::the512thCall);
        sheets();
        machine();
        aSheetRuns();
        watermarks();
        faults();
        worth();
        Check.sentence("A method that throws an exception changes nothing", TermsEdgesTest::refusedCallsChangeNothing);
        Check.sentence("If several exceptions apply, the one that is named first is thrown",
                TermsEdgesTest::theFirstException);
        Check.end();
    }

    private static void sheets() {
        Check.sentence("There are at most 20", TermsEdgesTest::twentySheets);
        Check.sentence("numbered from 0 in the order of their running", TermsEdgesTest::numbersOfSheets);
        Check.sentence("each has 5 rows, 0 to 4, of 6 stamps, 0 to 5 (columns)", TermsEdgesTest::stampsOfASheet);
    }

    private static void machine() {
        Check.sentence("It has a feed, 10 to 30 (20, at first)", () -> ofANewOne(1, 20));
        Check.sentence("a drift, -9 to 9 (0, at first)", () -> ofANewOne(2, 0));
        Check.sentence("an error (0, at first)", () -> ofANewOne(3, 0));
        Check.sentence("a roll of paper with 0 to 400 rows left (0, at first)", () -> ofANewOne(4, 0));
        Check.sentence("a step, 1 to 9 (1, at first)", TermsEdgesTest::firstStep);
        Check.sentence("a comb of 7 pins, 0 to 6, each with a strength, 1 to 500 (200, at first)", () -> ofNewPins(0, 200));
        Check.sentence("wear (0, at first)", () -> ofNewPins(1, 0));
        Check.sentence("whole (at first) or broken", () -> ofNewPins(2, 1));
        Check.sentence("Each of its 30 places, 6 * row + column, stands upright (at first)", TermsEdgesTest::firstPlate);
        Check.sentence("or inverted", TermsEdgesTest::eachPlaceAlone);
    }

    private static void aSheetRuns() {
        Check.sentence("the error is as much more as the feed less 20", TermsEdgesTest::errorOfAFeed);
        Check.sentence("an error: it has no bounds of its own", TermsEdgesTest::errorWithoutBounds);
        Check.sentence("is off, if the error is then less than -6", TermsEdgesTest::errorsBelow);
        Check.sentence("or more than 6", TermsEdgesTest::errorsAbove);
        Check.sentence("if the error is then: with what this row added", TermsEdgesTest::errorOfTheRowItself);
        Check.sentence("Each whole pin strikes, and has a wear of 1 more", TermsEdgesTest::wearOfWholePins);
        Check.sentence("Each whole pin: a broken one has no more wear", TermsEdgesTest::wearOfABrokenPin);
        Check.sentence("with more than its strength it is broken", TermsEdgesTest::wearLikeTheStrength);
        Check.sentence("from the next row on", TermsEdgesTest::brokenFromTheNextRowOn);
        Check.sentence("from the next row on, which may be in the next sheet", TermsEdgesTest::brokenFromTheNextSheetOn);
        Check.sentence("the pin k stands to the left of the column k", TermsEdgesTest::stampsRightOfPins);
        Check.sentence("and to the right of the column k - 1", TermsEdgesTest::stampsLeftOfPins);
        Check.sentence("The roll has a row less", TermsEdgesTest::rowsOfTheRoll);
        Check.sentence("Behind the sheet the feed is as much more as the drift", TermsEdgesTest::driftBehindTheSheet);
        Check.sentence("(held at 10 to 30): 30", () -> feedsHeld(30, 1));
        Check.sentence("(held at 10 to 30): 10", () -> feedsHeld(10, -1));
        Check.sentence("(held at 10 to 30): it goes on from there", TermsEdgesTest::fromTheHeldFeed);
    }

    private static void watermarks() {
        Check.sentence("of all rows of a roll, numbered from 0", TermsEdgesTest::watermarksOfTheFirstRow);
        Check.sentence("in the order of their running", TermsEdgesTest::watermarksOverSheets);
        Check.sentence("of all rows of a roll: another one begins anew", TermsEdgesTest::watermarksOfANewRoll);
        Check.sentence("if r + c can be divided by the step: by 1", TermsEdgesTest::watermarksOfStep1);
        Check.sentence("if r + c can be divided by the step: by each", TermsEdgesTest::watermarksOfEachStep);
    }

    private static void faults() {
        Check.sentence("bit 0 the row is off", () -> Check.due("a row off", Given.withFault(0).faults(0, 3, 2), 1));
        Check.sentence("bit 1 no holes to its left", () -> Check.due("no left", Given.withFault(1).faults(0, 2, 0), 2));
        Check.sentence("bit 2 none to its right", () -> Check.due("no right", Given.withFault(2).faults(0, 2, 5), 4));
        Check.sentence("bit 3 inverted", () -> Check.due("inverted", Given.withFault(3).faults(0, 2, 2), 8));
        Check.sentence("bit 4 no watermark", () -> Check.due("no watermark", Given.withFault(4).faults(0, 0, 1), 16));
        Check.sentence("Faults of a stamp, as a set: none", () -> Check.due("none", Given.sheets(1).faults(0, 0, 2), 0));
        Check.sentence("Faults of a stamp, as a set: all", () -> Check.due("all", Given.allFaults().faults(1, 0, 3), 31));
    }

    private static void worth() {
        Check.sentence("Worth of a stamp: 0, if it is torn off", TermsEdgesTest::worthOfATornOne);
        Check.sentence("or has one of the faults 0", () -> Check.due("a row off", Given.withFault(0).tear(0, 3, 2), 0));
        Check.sentence("or has one of the faults 1", () -> Check.due("no left", Given.withFault(1).tear(0, 2, 0), 0));
        Check.sentence("or has one of the faults 2", () -> Check.due("no right", Given.withFault(2).tear(0, 2, 5), 0));
        Check.sentence("0, also with the faults 3 and 4", () -> Check.due("all", Given.allFaults().tear(1, 0, 3), 0));
        Check.sentence("otherwise 1", () -> Check.due("none", Given.sheets(1).tear(0, 0, 2), 1));
        Check.sentence("20 more if inverted", () -> Check.due("inverted", Given.withFault(3).tear(0, 2, 2), 21));
        Check.sentence("4 more without watermark", () -> Check.due("no watermark", Given.withFault(4).tear(0, 0, 1), 5));
        Check.sentence("20 more, 4 more: both", TermsEdgesTest::worthOfBoth);
    }

    private static void the512thCall() {
        StampSheets x = Given.sheets(20);
        // One call for the roll, 20 for the sheets: call 512 is the 491st tear.
        for (int torn = 0; torn < 490; torn++) {
            Check.due("tear " + torn, x.tear(torn / 30, torn % 30 / 6, torn % 6), 1);
        }
        Check.due("call 512: tear(16, 1, 4)", x.tear(16, 1, 4), 1);
    }

    private static void twentySheets() {
        StampSheets x = Given.sheets(19);
        Check.due("the 20th sheet", x.run(), 19);
        Check.noState("a 21st sheet", x, x::run);
        Check.due("count(0)", x.count(0), 20);
    }

    private static void numbersOfSheets() {
        StampSheets x = Given.paper();
        for (int number = 0; number < 20; number++) {
            x.turn(number / 6, number % 6);
            Check.due("run()", x.run(), number);
        }
        for (int number = 0; number < 20; number++) {
            Check.due("worth of sheet " + number, x.sheet(number, 2), 30 + 20 * (number + 1));
        }
    }

    private static void stampsOfASheet() {
        StampSheets x = new StampSheets();
        x.roll(5, 9);
        x.run();
        Check.due("faults(0, 0, 0)", x.faults(0, 0, 0), 0);
        Check.due("faults(0, 4, 0)", x.faults(0, 4, 0), 16);
        Check.due("faults(0, 0, 5)", x.faults(0, 0, 5), 16);
        Check.due("faults(0, 4, 5)", x.faults(0, 4, 5), 0);
        Check.noIndex("row 5", x, () -> x.faults(0, 5, 0));
        Check.noIndex("column 6", x, () -> x.faults(0, 0, 6));
    }

    private static void ofANewOne(int what, int due) {
        Check.due("new: count(" + what + ")", new StampSheets().count(what), due);
    }

    private static void firstStep() {
        ofANewOne(5, 1);
        Check.due("all stamps would have a watermark", new StampSheets().foresee(20, 0), 600);
    }

    private static void ofNewPins(int what, int due) {
        StampSheets x = new StampSheets();
        for (int pin = 0; pin < 7; pin++) {
            Check.due("new: pin(" + pin + ", " + what + ")", x.pin(pin, what), due);
        }
    }

    private static void firstPlate() {
        ofANewOne(8, 0);
        Check.due("no stamp of a sheet is inverted", Given.sheets(1).like(8), 0);
    }

    private static void eachPlaceAlone() {
        for (int place = 0; place < 30; place++) {
            StampSheets x = Given.paper();
            x.turn(place / 6, place % 6);
            x.run();
            for (int other = 0; other < 30; other++) {
                Check.due("place " + place + " turned: faults of " + other,
                        x.faults(0, other / 6, other % 6), other == place ? 8 : 0);
            }
        }
    }

    private static void errorOfAFeed() {
        int[] feeds = {10, 19, 20, 21, 30};
        int[] due = {-50, -5, 0, 5, 50};
        for (int i = 0; i < feeds.length; i++) {
            Check.due("error behind a sheet with feed " + feeds[i], Given.ranWith(feeds[i]).count(3), due[i]);
        }
    }

    private static void errorWithoutBounds() {
        for (int way = -1; way <= 1; way += 2) {
            StampSheets x = Given.paper();
            x.setFeed(20 + 10 * way, 0);
            for (int ran = 0; ran < 20; ran++) {
                x.run();
            }
            Check.due("error behind 100 rows", x.count(3), 1000 * way);
        }
    }

    private static void errorsBelow() {
        Check.due("error -6 in row 0", Given.ranWith(14).faults(0, 0, 0), 0);
        Check.due("error -7 in row 0", Given.ranWith(13).faults(0, 0, 0), 1);
        Check.due("error -6 in row 1", Given.ranWith(17).faults(0, 1, 5), 0);
        Check.due("error -9 in row 2", Given.ranWith(17).faults(0, 2, 5), 1);
        StampSheets x = Given.ranWith(19);
        x.run();
        Check.due("error -6 in the row 0 of sheet 1", x.faults(1, 0, 0), 0);
        Check.due("error -7 in the row 1 of sheet 1", x.faults(1, 1, 0), 1);
    }

    private static void errorsAbove() {
        Check.due("error 6 in row 0", Given.ranWith(26).faults(0, 0, 0), 0);
        Check.due("error 7 in row 0", Given.ranWith(27).faults(0, 0, 0), 1);
        Check.due("error 6 in row 2", Given.ranWith(22).faults(0, 2, 5), 0);
        Check.due("error 8 in row 3", Given.ranWith(22).faults(0, 3, 5), 1);
        StampSheets x = Given.ranWith(21);
        x.run();
        Check.due("error 6 in the row 0 of sheet 1", x.faults(1, 0, 0), 0);
        Check.due("error 7 in the row 1 of sheet 1", x.faults(1, 1, 0), 1);
    }

    private static void errorOfTheRowItself() {
        StampSheets x = Given.ranWith(30);
        Check.due("the first row with feed 30", x.faults(0, 0, 0), 1);
        x.setFeed(10, 0);
        x.run();
        // The error goes down from 50: 40, 30, 20, 10 and 0.
        Check.due("the row that comes from 20 to 10", x.faults(1, 3, 0), 1);
        Check.due("the row that comes from 10 to 0", x.faults(1, 4, 0), 0);
    }

    private static void wearOfWholePins() {
        StampSheets x = Given.paper();
        for (int ran = 0; ran < 20; ran++) {
            x.run();
            for (int pin = 0; pin < 7; pin++) {
                Check.due("wear of pin " + pin + " behind sheet " + ran, x.pin(pin, 1), 5 * (ran + 1));
            }
        }
    }

    private static void wearOfABrokenPin() {
        StampSheets x = Given.paper();
        x.fit(3, 1);
        x.run();
        Check.due("wear in the sheet where it breaks", x.pin(3, 1), 2);
        x.run();
        Check.due("wear a sheet later", x.pin(3, 1), 2);
    }

    private static void wearLikeTheStrength() {
        StampSheets x = Given.paper();
        x.fit(2, 5);
        x.fit(4, 4);
        x.run();
        Check.due("strength 5, wear 5", x.pin(2, 2), 1);
        Check.due("strength 4, wear 5", x.pin(4, 2), 0);
    }

    private static void brokenFromTheNextRowOn() {
        for (int strength = 1; strength <= 5; strength++) {
            StampSheets x = Given.paper();
            x.fit(0, strength);
            x.run();
            // The row of the number strength (from 0) is the one in which the wear comes to be too much.
            for (int row = 0; row < 5; row++) {
                Check.due("strength " + strength + ", row " + row, x.faults(0, row, 0), row > strength ? 2 : 0);
            }
        }
    }

    private static void brokenFromTheNextSheetOn() {
        StampSheets x = Given.paper();
        x.fit(0, 4);
        x.fit(6, 5);
        x.run();
        x.run();
        Check.due("strength 4: the last row of sheet 0", x.faults(0, 4, 0), 0);
        Check.due("strength 4: the first row of sheet 1", x.faults(1, 0, 0), 2);
        Check.due("strength 5: the first row of sheet 1", x.faults(1, 0, 5), 0);
        Check.due("strength 5: the second row of sheet 1", x.faults(1, 1, 5), 4);
    }

    /** One pin breaks in the row 1 of the sheet. */
    private static StampSheets withoutPin(int pin) {
        StampSheets x = Given.paper();
        x.fit(pin, 1);
        x.run();
        return x;
    }

    private static void stampsRightOfPins() {
        for (int pin = 0; pin < 7; pin++) {
            StampSheets x = withoutPin(pin);
            for (int column = 0; column < 6; column++) {
                Check.due("pin " + pin + ": left of column " + column,
                        x.faults(0, 2, column) & 2, column == pin ? 2 : 0);
            }
        }
    }

    private static void stampsLeftOfPins() {
        for (int pin = 0; pin < 7; pin++) {
            StampSheets x = withoutPin(pin);
            for (int column = 0; column < 6; column++) {
                Check.due("pin " + pin + ": right of column " + column,
                        x.faults(0, 2, column) & 4, column == pin - 1 ? 4 : 0);
            }
        }
    }

    private static void rowsOfTheRoll() {
        StampSheets x = new StampSheets();
        x.roll(11, 1);
        x.run();
        Check.due("left behind one sheet", x.count(4), 6);
        x.run();
        Check.due("left behind two sheets", x.count(4), 1);
    }

    private static void driftBehindTheSheet() {
        StampSheets x = Given.paper();
        x.setFeed(20, 5);
        x.run();
        Check.due("the sheet itself has the feed as it was", x.count(3), 0);
        Check.due("the feed behind it", x.count(1), 25);
        x.run();
        Check.due("the error of the next sheet", x.count(3), 25);
        x.setFeed(20, -9);
        x.run();
        Check.due("the feed behind a drift of -9", x.count(1), 11);
    }

    /** Feeds near an end, and drifts that lead just to it, and past it. */
    private static void feedsHeld(int end, int way) {
        int[] missing = {1, 2, 9, 1, 4, 0, 0};
        int[] drift = {1, 2, 9, 2, 9, 1, 9};
        for (int i = 0; i < drift.length; i++) {
            StampSheets x = Given.paper();
            x.setFeed(end - way * missing[i], way * drift[i]);
            x.run();
            Check.due(missing[i] + " short of " + end + ", drift " + way * drift[i], x.count(1), end);
        }
        StampSheets y = Given.paper();
        y.setFeed(end - way * 9, way * 8);
        y.run();
        Check.due("9 short of " + end + ", drift " + way * 8, y.count(1), end - way);
    }

    private static void fromTheHeldFeed() {
        StampSheets x = Given.paper();
        x.setFeed(29, 9);
        x.run();
        x.run();
        Check.due("the error with 29, and then with 30", x.count(3), 45 + 50);
        Check.due("the drift stays as it is", x.count(2), 9);
        Check.due("the feed before is told as it was held", x.setFeed(30, -1), 3009);
        x.run();
        Check.due("back from 30", x.count(1), 29);
    }

    private static void watermarksOfTheFirstRow() {
        StampSheets x = new StampSheets();
        x.roll(5, 7);
        x.run();
        Check.due("r + c = 0", x.faults(0, 0, 0), 0);
        Check.due("r + c = 1, in the row 0", x.faults(0, 0, 1), 16);
        Check.due("r + c = 1, in the row 1", x.faults(0, 1, 0), 16);
        Check.due("r + c = 7", x.faults(0, 3, 4), 0);
    }

    private static void watermarksOverSheets() {
        StampSheets x = new StampSheets();
        x.roll(100, 8);
        for (int sheet = 0; sheet < 20; sheet++) {
            x.run();
        }
        Check.due("r = 5, c = 3", x.faults(1, 0, 3), 0);
        Check.due("r = 5, c = 0", x.faults(1, 0, 0), 16);
        Check.due("r = 99, c = 5", x.faults(19, 4, 5), 0);
        Check.due("r = 99, c = 4", x.faults(19, 4, 4), 16);
    }

    private static void watermarksOfANewRoll() {
        StampSheets x = new StampSheets();
        x.roll(9, 4);
        x.run();
        x.roll(9, 4);
        x.run();
        Check.due("r = 0, c = 0 of the new roll", x.faults(1, 0, 0), 0);
        Check.due("r = 0, c = 3 of the new roll", x.faults(1, 0, 3), 16);
        x.roll(9, 3);
        Check.due("a sheet keeps the watermarks of its own roll", x.faults(1, 0, 4), 0);
    }

    private static void watermarksOfStep1() {
        StampSheets x = Given.sheets(20);
        Check.due("stamps without any fault", x.like(0), 600);
    }

    private static void watermarksOfEachStep() {
        for (int step = 1; step <= 9; step++) {
            StampSheets x = new StampSheets();
            x.roll(400, step);
            for (int sheet = 0; sheet < 4; sheet++) {
                x.run();
                for (int place = 0; place < 30; place++) {
                    int sum = 5 * sheet + place / 6 + place % 6;
                    boolean has = sum / step * step == sum;
                    Check.due("step " + step + ", sheet " + sheet + ", place " + place,
                            x.faults(sheet, place / 6, place % 6), has ? 0 : 16);
                }
            }
        }
    }

    private static void worthOfATornOne() {
        StampSheets x = Given.sheets(1);
        x.tear(0, 3, 3);
        Check.due("sheet(0, 2)", x.sheet(0, 2), 29);
    }

    private static void worthOfBoth() {
        StampSheets x = new StampSheets();
        x.roll(5, 9);
        x.turn(0, 1);
        x.run();
        Check.due("inverted and without watermark", x.tear(0, 0, 1), 25);
    }

    /** All kinds of refused calls; the sheet 0 is there, and its stamp (1, 0) is torn off. */
    private static void refuse(StampSheets x) {
        String index = "IndexOutOfBoundsException";
        String argument = "IllegalArgumentException";
        refused("setFeed(31, 5)", () -> x.setFeed(31, 5), argument);
        refused("setFeed(25, 10)", () -> x.setFeed(25, 10), argument);
        refused("roll(401, 2)", () -> x.roll(401, 2), argument);
        refused("roll(300, 10)", () -> x.roll(300, 10), argument);
        refused("fit(7, 3)", () -> x.fit(7, 3), index);
        refused("fit(2, 501)", () -> x.fit(2, 501), argument);
        refused("turn(0, 6)", () -> x.turn(0, 6), index);
        refused("turn(5, 0)", () -> x.turn(5, 0), index);
        refused("run()", x::run, "IllegalStateException");
        refused("faults(0, 0, 6)", () -> x.faults(0, 0, 6), index);
        refused("tear(0, -1, 0)", () -> x.tear(0, -1, 0), index);
        refused("tear(0, 2, 6)", () -> x.tear(0, 2, 6), index);
        refused("tear(0, 2, -1)", () -> x.tear(0, 2, -1), index);
        refused("tear(20, 0, 0)", () -> x.tear(20, 0, 0), index);
        refused("tear(0, 1, 0)", () -> x.tear(0, 1, 0), "IllegalStateException");
        refused("sheet(0, 6)", () -> x.sheet(0, 6), index);
        refused("pin(0, 4)", () -> x.pin(0, 4), index);
        refused("count(10)", () -> x.count(10), index);
        refused("foresee(21, 0)", () -> x.foresee(21, 0), argument);
        refused("foresee(20, 4)", () -> x.foresee(20, 4), index);
        refused("advise(0)", () -> x.advise(0), argument);
        refused("like(32)", () -> x.like(32), argument);
    }

    private static void refused(String name, Check.Call call, String due) {
        Check.due(name, Check.outcome(call), due);
    }

    /** Two objects with the same calls, of which one refuses many more, must be alike ever after. */
    private static void refusedCallsChangeNothing() {
        StampSheets x = beforeRefusing();
        StampSheets twin = beforeRefusing();
        refuse(x);
        refuse(x);
        Check.due("digest()", x.digest(), twin.digest());
        for (StampSheets both : new StampSheets[] {x, twin}) {
            both.roll(400, 3);
            both.run();
            both.run();
        }
        for (int place = 0; place < 90; place++) {
            int sheet = place / 30;
            int row = place % 30 / 6;
            int column = place % 6;
            Check.due("faults of " + place, x.faults(sheet, row, column), twin.faults(sheet, row, column));
            Check.due("tear of " + place, Check.outcome(() -> x.tear(sheet, row, column)),
                    Check.outcome(() -> twin.tear(sheet, row, column)));
        }
        Check.due("digest() in the end", x.digest(), twin.digest());
    }

    /** One sheet with a torn stamp, the pins 2 and 3 part worn, some places turned, too little paper left. */
    private static StampSheets beforeRefusing() {
        StampSheets x = new StampSheets();
        x.roll(9, 2);
        x.fit(2, 6);
        x.fit(3, 9);
        x.turn(0, 0);
        x.turn(1, 3);
        x.setFeed(21, -1);
        x.run();
        x.tear(0, 1, 0);
        return x;
    }

    private static void theFirstException() {
        StampSheets x = beforeRefusing();
        Check.noIndex("fit: pin and strength wrong", x, () -> x.fit(7, 0));
        Check.noIndex("fit: pin and strength wrong, below", x, () -> x.fit(-1, 501));
        // 6 * 0 + 6 and 6 * 2 - 6 would be the place of the stamp that is torn off.
        Check.noIndex("tear: column 6, next to a torn one", x, () -> x.tear(0, 0, 6));
        Check.noIndex("tear: column -6, as if it were a torn one", x, () -> x.tear(0, 2, -6));
        Check.noArgument("foresee: sheets and what wrong", x, () -> x.foresee(0, 4));
        Check.noArgument("foresee: sheets and what wrong, above", x, () -> x.foresee(21, -1));
    }
}
