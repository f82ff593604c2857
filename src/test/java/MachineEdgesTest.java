/** Promises 1 to 7, the sentences that name a boundary case: a test for each. */
public final class MachineEdgesTest {
    public static void main(String[] args) {
        newObject();
        setFeed();
        align();
        roll();
        fit();
        turn();
        run();
        Check.end();
    }

    private static void newObject() {
        Check.sentence("1 Creates a machine without paper", MachineEdgesTest::withoutPaper);
        Check.sentence("1 and sheets", MachineEdgesTest::withoutSheets);
        Check.sentence("1 A new object shares nothing with another", MachineEdgesTest::ofItsOwn);
    }

    private static void setFeed() {
        Check.sentence("2 the feed from now on: 10 and 30", MachineEdgesTest::leastAndGreatestFeed);
        Check.sentence("2 the drift: -9 and 9", MachineEdgesTest::leastAndGreatestDrift);
        Check.sentence("2 Returns 100 * feed + drift, as they were before", MachineEdgesTest::feedAndDriftBefore);
        Check.sentence("2 as they were before: behind a sheet", MachineEdgesTest::driftedFeedBefore);
        Check.sentence("2 Throws IllegalArgumentException if feed is not 10 to 30", MachineEdgesTest::wrongFeed);
        Check.sentence("2 or drift is not -9 to 9", MachineEdgesTest::wrongDrift);
        Check.sentence("2 Throws: neither of the two is set", MachineEdgesTest::neitherFeedNorDrift);
    }

    private static void align() {
        Check.sentence("3 Sets the error to 0", MachineEdgesTest::errorIs0);
        Check.sentence("3 Returns the error that there was: 0", MachineEdgesTest::alignTwice);
        Check.sentence("3 Returns the error that there was: more, or less, than 0", MachineEdgesTest::errorThatThereWas);
    }

    private static void roll() {
        Check.sentence("4 how many rows it has: 1 and 400", MachineEdgesTest::shortestAndLongestRoll);
        Check.sentence("4 the step of its watermarks: 1 and 9", MachineEdgesTest::leastAndGreatestStep);
        Check.sentence("4 its rows begin at 0", MachineEdgesTest::rowsBeginAt0);
        Check.sentence("4 Returns how many rows the old one had left: none", MachineEdgesTest::noneLeft);
        Check.sentence("4 Returns how many rows the old one had left: all", MachineEdgesTest::allLeft);
        Check.sentence("4 Throws IllegalArgumentException if rows is not 1 to 400", MachineEdgesTest::wrongRows);
        Check.sentence("4 or step is not 1 to 9", MachineEdgesTest::wrongStep);
        Check.sentence("4 Throws: the old roll stays in", MachineEdgesTest::oldRollStays);
    }

    private static void fit() {
        Check.sentence("5 it is whole", MachineEdgesTest::newPinIsWhole);
        Check.sentence("5 without wear", MachineEdgesTest::newPinHasNoWear);
        Check.sentence("5 the pin: 0 and 6", MachineEdgesTest::firstAndLastPin);
        Check.sentence("5 its strength: 1 and 500", MachineEdgesTest::leastAndGreatestStrength);
        Check.sentence("5 Returns the wear of the old one: 0", MachineEdgesTest::noWearOfTheOldOne);
        Check.sentence("5 Returns the wear of the old one: a broken one", MachineEdgesTest::wearOfABrokenOne);
        Check.sentence("5 Throws IndexOutOfBoundsException if pin is not 0 to 6", MachineEdgesTest::wrongPin);
        Check.sentence("5 Throws IllegalArgumentException if strength is not 1 to 500", MachineEdgesTest::wrongStrength);
        Check.sentence("5 Both: the one that is named first", MachineEdgesTest::wrongPinAndStrength);
    }

    private static void turn() {
        Check.sentence("6 Turns a place of the plate round: the first and the last", MachineEdgesTest::cornersTurned);
        Check.sentence("6 Returns whether it stands inverted then", MachineEdgesTest::turnedTwice);
        Check.sentence("6 a place: those of the sheets that ran stay", MachineEdgesTest::sheetsKeepTheirPlate);
        Check.sentence("6 Throws IndexOutOfBoundsException if row is not 0 to 4", MachineEdgesTest::wrongRow);
        Check.sentence("6 or column is not 0 to 5", MachineEdgesTest::wrongColumn);
    }

    private static void run() {
        Check.sentence("7 Returns its number: the first, and the last", MachineEdgesTest::firstAndLastNumber);
        Check.sentence("7 Throws IllegalStateException if there are 20", MachineEdgesTest::twentyThere);
        Check.sentence("7 or the roll has less than 5 rows left", MachineEdgesTest::lessThan5Rows);
        Check.sentence("7 less than 5: 5 are enough", MachineEdgesTest::just5Rows);
        Check.sentence("7 if there are 20: torn ones too", MachineEdgesTest::twentyTornOnes);
        Check.sentence("7 Throws: no row runs", MachineEdgesTest::noRowRuns);
    }

    private static void withoutPaper() {
        StampSheets x = new StampSheets();
        Check.noState("run()", x, x::run);
        Check.due("count(4)", x.count(4), 0);
        Check.due("count(6)", x.count(6), 0);
        Check.due("roll(1, 1)", x.roll(1, 1), 0);
    }

    private static void withoutSheets() {
        StampSheets x = new StampSheets();
        Check.due("count(0)", x.count(0), 0);
        Check.due("count(9)", x.count(9), 0);
        Check.noIndex("faults(0, 0, 0)", x, () -> x.faults(0, 0, 0));
        Check.noIndex("tear(0, 0, 0)", x, () -> x.tear(0, 0, 0));
        Check.noIndex("sheet(0, 0)", x, () -> x.sheet(0, 0));
    }

    private static void ofItsOwn() {
        StampSheets x = new StampSheets();
        long before = x.digest();
        StampSheets other = Given.allFaults();
        other.tear(0, 0, 0);
        Check.due("digest() behind calls of another", x.digest(), before);
    }

    private static void leastAndGreatestFeed() {
        StampSheets x = new StampSheets();
        x.setFeed(10, 0);
        Check.due("count(1) behind setFeed(10, 0)", x.count(1), 10);
        x.setFeed(30, 0);
        Check.due("count(1) behind setFeed(30, 0)", x.count(1), 30);
    }

    private static void leastAndGreatestDrift() {
        StampSheets x = new StampSheets();
        x.setFeed(20, -9);
        Check.due("count(2) behind setFeed(20, -9)", x.count(2), -9);
        x.setFeed(20, 9);
        Check.due("count(2) behind setFeed(20, 9)", x.count(2), 9);
    }

    private static void feedAndDriftBefore() {
        StampSheets x = new StampSheets();
        Check.due("of a new one", x.setFeed(10, -9), 2000);
        Check.due("of 10 and -9", x.setFeed(30, 9), 991);
        Check.due("of 30 and 9", x.setFeed(30, -1), 3009);
        Check.due("of 30 and -1", x.setFeed(20, 0), 2999);
    }

    private static void driftedFeedBefore() {
        StampSheets x = Given.paper();
        x.setFeed(12, -4);
        x.run();
        Check.due("of 12 less 4, held at 10", x.setFeed(20, 0), 996);
    }

    private static void wrongFeed() {
        StampSheets x = new StampSheets();
        Check.noArgumentOutside(10, 30, "setFeed(.., 0)", x, feed -> x.setFeed(feed, 0));
        Check.noArgument("setFeed(0, 0)", x, () -> x.setFeed(0, 0));
        Check.noArgument("setFeed(-20, 0)", x, () -> x.setFeed(-20, 0));
    }

    private static void wrongDrift() {
        StampSheets x = new StampSheets();
        Check.noArgumentOutside(-9, 9, "setFeed(20, ..)", x, drift -> x.setFeed(20, drift));
        Check.noArgument("setFeed(31, 10)", x, () -> x.setFeed(31, 10));
    }

    private static void neitherFeedNorDrift() {
        StampSheets x = new StampSheets();
        x.setFeed(15, 3);
        Check.noArgument("setFeed(25, -10)", x, () -> x.setFeed(25, -10));
        Check.noArgument("setFeed(9, -5)", x, () -> x.setFeed(9, -5));
        Check.due("setFeed(20, 0)", x.setFeed(20, 0), 1503);
    }

    private static void errorIs0() {
        StampSheets x = Given.ranWith(26);
        Check.due("the error ahead of it", x.count(3), 30);
        x.align();
        Check.due("the error", x.count(3), 0);
        x.run();
        Check.due("the first row of the next sheet is not off", x.faults(1, 0, 0), 0);
        Check.due("the feed stays", x.count(1), 26);
    }

    private static void alignTwice() {
        StampSheets x = new StampSheets();
        Check.due("align() of a new one", x.align(), 0);
        StampSheets y = Given.ranWith(30);
        y.align();
        Check.due("align() again", y.align(), 0);
    }

    private static void errorThatThereWas() {
        Check.due("with feed 21", Given.ranWith(21).align(), 5);
        Check.due("with feed 19", Given.ranWith(19).align(), -5);
        Check.due("with feed 30", Given.ranWith(30).align(), 50);
        Check.due("with feed 10", Given.ranWith(10).align(), -50);
    }

    private static void shortestAndLongestRoll() {
        StampSheets x = new StampSheets();
        x.roll(1, 1);
        Check.due("count(4) behind roll(1, 1)", x.count(4), 1);
        x.roll(400, 1);
        Check.due("count(4) behind roll(400, 1)", x.count(4), 400);
    }

    private static void leastAndGreatestStep() {
        StampSheets x = new StampSheets();
        x.roll(5, 9);
        Check.due("count(5) behind roll(5, 9)", x.count(5), 9);
        x.roll(5, 1);
        Check.due("count(5) behind roll(5, 1)", x.count(5), 1);
    }

    private static void rowsBeginAt0() {
        StampSheets x = new StampSheets();
        x.roll(400, 6);
        x.run();
        Check.due("rows that ran", x.count(6), 5);
        x.roll(400, 6);
        Check.due("rows of the new roll that ran", x.count(6), 0);
        x.run();
        Check.due("the first row of the new roll", x.faults(1, 0, 0), 0);
        Check.due("the second row of the new roll", x.faults(1, 1, 5), 0);
    }

    private static void noneLeft() {
        StampSheets x = new StampSheets();
        Check.due("of a new one", x.roll(5, 1), 0);
        x.run();
        Check.due("of a roll that ran to its end", x.roll(5, 1), 0);
    }

    private static void allLeft() {
        StampSheets x = new StampSheets();
        x.roll(400, 1);
        Check.due("of 400", x.roll(1, 1), 400);
        Check.due("of 1", x.roll(9, 1), 1);
        x.run();
        Check.due("of 9, behind a sheet", x.roll(9, 1), 4);
    }

    private static void wrongRows() {
        StampSheets x = Given.sheets(1);
        Check.noArgumentOutside(1, 400, "roll(.., 1)", x, rows -> x.roll(rows, 1));
        Check.noArgument("roll(-1, 1)", x, () -> x.roll(-1, 1));
    }

    private static void wrongStep() {
        StampSheets x = Given.sheets(1);
        Check.noArgumentOutside(1, 9, "roll(100, ..)", x, step -> x.roll(100, step));
        Check.noArgument("roll(0, 0)", x, () -> x.roll(0, 0));
    }

    private static void oldRollStays() {
        StampSheets x = new StampSheets();
        x.roll(17, 3);
        x.run();
        Check.noArgument("roll(0, 2)", x, () -> x.roll(0, 2));
        Check.noArgument("roll(300, 0)", x, () -> x.roll(300, 0));
        Check.due("count(4)", x.count(4), 12);
        Check.due("count(5)", x.count(5), 3);
        Check.due("count(6)", x.count(6), 5);
    }

    /** The pin 3 has broken in sheet 0. */
    private static StampSheets withoutPin3() {
        StampSheets x = Given.paper();
        x.fit(3, 2);
        x.run();
        return x;
    }

    private static void newPinIsWhole() {
        StampSheets x = withoutPin3();
        Check.due("pin(3, 2) ahead of it", x.pin(3, 2), 0);
        x.fit(3, 9);
        Check.due("pin(3, 2)", x.pin(3, 2), 1);
        x.run();
        Check.due("the stamp to its right", x.faults(1, 0, 3), 0);
        Check.due("the stamp to its left", x.faults(1, 0, 2), 0);
    }

    private static void newPinHasNoWear() {
        StampSheets x = withoutPin3();
        x.fit(3, 2);
        Check.due("pin(3, 1)", x.pin(3, 1), 0);
        Check.due("pin(3, 3)", x.pin(3, 3), 3);
        x.fit(2, 200);
        Check.due("pin(2, 1) of one that was whole", x.pin(2, 1), 0);
    }

    private static void firstAndLastPin() {
        StampSheets x = new StampSheets();
        x.fit(0, 11);
        x.fit(6, 12);
        int[] due = {11, 200, 200, 200, 200, 200, 12};
        for (int pin = 0; pin < 7; pin++) {
            Check.due("pin(" + pin + ", 0)", x.pin(pin, 0), due[pin]);
        }
    }

    private static void leastAndGreatestStrength() {
        StampSheets x = Given.paper();
        x.fit(0, 1);
        x.fit(1, 500);
        Check.due("pin(0, 0)", x.pin(0, 0), 1);
        Check.due("pin(1, 0)", x.pin(1, 0), 500);
        x.run();
        Check.due("a strength of 1 strikes two rows: row 1", x.faults(0, 1, 0), 0);
        Check.due("a strength of 1 strikes two rows: row 2", x.faults(0, 2, 0), 2);
        Check.due("a strength of 500 would strike 20 sheets more", x.foresee(20, 2), 1);
    }

    private static void noWearOfTheOldOne() {
        StampSheets x = Given.paper();
        Check.due("of a new object", x.fit(0, 1), 0);
        Check.due("of one that struck nothing", x.fit(0, 500), 0);
        x.run();
        Check.due("of one that struck a sheet", x.fit(0, 1), 5);
    }

    private static void wearOfABrokenOne() {
        StampSheets x = withoutPin3();
        Check.due("strength 2", x.fit(3, 200), 3);
        StampSheets y = Given.paper();
        y.fit(6, 5);
        y.run();
        Check.due("strength 5, whole still", y.fit(6, 1), 5);
    }

    private static void wrongPin() {
        StampSheets x = Given.sheets(1);
        Check.noIndexOutside(0, 6, "fit(.., 200)", x, pin -> x.fit(pin, 200));
    }

    private static void wrongStrength() {
        StampSheets x = Given.sheets(1);
        Check.noArgumentOutside(1, 500, "fit(0, ..)", x, strength -> x.fit(0, strength));
        Check.noArgument("fit(6, -1)", x, () -> x.fit(6, -1));
    }

    private static void wrongPinAndStrength() {
        StampSheets x = Given.sheets(1);
        Check.noIndexOutside(0, 6, "fit(.., 0)", x, pin -> x.fit(pin, 0));
        Check.noIndexOutside(0, 6, "fit(.., 501)", x, pin -> x.fit(pin, 501));
    }

    private static void cornersTurned() {
        StampSheets x = Given.paper();
        int[][] corners = {{0, 0}, {0, 5}, {4, 0}, {4, 5}};
        for (int[] place : corners) {
            Check.due("turn(" + place[0] + ", " + place[1] + ")", x.turn(place[0], place[1]), true);
        }
        x.run();
        for (int[] place : corners) {
            Check.due("faults(0, " + place[0] + ", " + place[1] + ")", x.faults(0, place[0], place[1]), 8);
        }
        Check.due("all others are upright", x.like(0), 26);
    }

    private static void turnedTwice() {
        StampSheets x = new StampSheets();
        Check.due("turn(2, 3)", x.turn(2, 3), true);
        Check.due("turn(2, 3) again", x.turn(2, 3), false);
        Check.due("turn(2, 3) once more", x.turn(2, 3), true);
        Check.due("count(8)", x.count(8), 1);
    }

    private static void sheetsKeepTheirPlate() {
        StampSheets x = Given.sheets(1);
        x.turn(2, 2);
        x.run();
        x.turn(2, 2);
        Check.due("the sheet ahead of the turn", x.faults(0, 2, 2), 0);
        Check.due("the sheet behind it", x.faults(1, 2, 2), 8);
    }

    private static void wrongRow() {
        StampSheets x = Given.sheets(1);
        Check.noIndexOutside(0, 4, "turn(.., 0)", x, row -> x.turn(row, 0));
        Check.noIndexOutside(0, 4, "turn(.., 6)", x, row -> x.turn(row, 6));
    }

    private static void wrongColumn() {
        StampSheets x = Given.sheets(1);
        Check.noIndexOutside(0, 5, "turn(0, ..)", x, column -> x.turn(0, column));
        Check.noIndexOutside(0, 5, "turn(4, ..)", x, column -> x.turn(4, column));
    }

    private static void firstAndLastNumber() {
        StampSheets x = Given.paper();
        Check.due("the first", x.run(), 0);
        Check.due("the second", x.run(), 1);
        Check.due("the last", Given.sheets(19).run(), 19);
    }

    private static void twentyThere() {
        StampSheets x = Given.sheets(20);
        Check.due("rows left", x.count(4), 300);
        Check.noState("run()", x, x::run);
        Check.noState("run() again", x, x::run);
    }

    private static void lessThan5Rows() {
        for (int rows = 1; rows < 5; rows++) {
            StampSheets x = new StampSheets();
            x.roll(rows, 1);
            Check.noState("run() with a new roll of " + rows, x, x::run);
            StampSheets y = new StampSheets();
            y.roll(5 + rows, 1);
            y.run();
            Check.noState("run() with " + rows + " left", y, y::run);
        }
    }

    private static void just5Rows() {
        StampSheets x = new StampSheets();
        x.roll(5, 1);
        Check.due("run() with 5 left", x.run(), 0);
        Check.due("count(4)", x.count(4), 0);
        Check.noState("run() with none left", x, x::run);
        x.roll(10, 1);
        x.run();
        Check.due("run() with 5 of 10 left", x.run(), 2);
    }

    private static void twentyTornOnes() {
        StampSheets x = Given.sheets(20);
        Given.tearAll(x, 0);
        Given.tearAll(x, 19);
        Check.noState("run()", x, x::run);
    }

    private static void noRowRuns() {
        StampSheets x = new StampSheets();
        x.roll(4, 1);
        x.fit(0, 1);
        x.setFeed(25, 2);
        Check.noState("run()", x, x::run);
        Check.due("rows left", x.count(4), 4);
        Check.due("rows that ran", x.count(6), 0);
        Check.due("the error", x.count(3), 0);
        Check.due("the feed", x.count(1), 25);
        Check.due("the wear of pin 0", x.pin(0, 1), 0);
    }
}
