/** Promises 8 to 12, the sentences that name a boundary case: a test for each. */
public final class SheetsEdgesTest {
    public static void main(String[] args) {
        faults();
        tear();
        sheet();
        pairsAndBlocks();
        pin();
        count();
        countedTogether();
        Check.end();
    }

    private static void faults() {
        Check.sentence("8 Returns the faults of this stamp, as a set: none, and all", SheetsEdgesTest::noneAndAllFaults);
        Check.sentence("8 (also if it is torn off)", SheetsEdgesTest::faultsOfATornOne);
        Check.sentence("8 Throws IndexOutOfBoundsException if there is no such sheet", SheetsEdgesTest::faultsOfNoSheet);
        Check.sentence("8 row is not 0 to 4", SheetsEdgesTest::faultsOfNoRow);
        Check.sentence("8 or column is not 0 to 5", SheetsEdgesTest::faultsOfNoColumn);
    }

    private static void tear() {
        Check.sentence("9 Tears a stamp off: this one alone", SheetsEdgesTest::onlyThisOne);
        Check.sentence("9 Returns its worth ahead of that: 0", SheetsEdgesTest::tornThoughWorthNothing);
        Check.sentence("9 Returns its worth ahead of that: the most", SheetsEdgesTest::tornWorthTheMost);
        Check.sentence("9 Throws IndexOutOfBoundsException if there is no such sheet", SheetsEdgesTest::tearOfNoSheet);
        Check.sentence("9 row is not 0 to 4", SheetsEdgesTest::tearOfNoRow);
        Check.sentence("9 or column is not 0 to 5", SheetsEdgesTest::tearOfNoColumn);
        Check.sentence("9 Throws IllegalStateException if it is torn off", SheetsEdgesTest::tornTwice);
        Check.sentence("9 Both: the one that is named first", SheetsEdgesTest::wrongIndexAheadOfTorn);
    }

    private static void sheet() {
        Check.sentence("10 stamps that are not torn off: all, one, none", SheetsEdgesTest::stampsLeft);
        Check.sentence("10 those of these without any fault: all, none", SheetsEdgesTest::stampsWithoutFault);
        Check.sentence("10 those of these: not a torn one", SheetsEdgesTest::tornOnesWithoutFault);
        Check.sentence("10 without any fault: each fault counts", SheetsEdgesTest::eachFaultCounts);
        Check.sentence("10 the worth of all stamps, added: 0, and the most", SheetsEdgesTest::leastAndMostWorth);
        Check.sentence("10 rows that are off: none, all", SheetsEdgesTest::noneAndAllRowsOff);
        Check.sentence("10 rows that are off: a part", SheetsEdgesTest::aPartOfTheRowsOff);
        Check.sentence("10 rows that are off: torn ones too", SheetsEdgesTest::tornRowsOff);
        Check.sentence("10 Throws IndexOutOfBoundsException if there is no such sheet", SheetsEdgesTest::answersOfNoSheet);
        Check.sentence("10 or what is not 0 to 5", SheetsEdgesTest::noAnswerOfASheet);
    }

    private static void pairsAndBlocks() {
        Check.sentence("10 two stamps beside each other", SheetsEdgesTest::pairsAtBothEnds);
        Check.sentence("10 in a row: not over its end", SheetsEdgesTest::noPairOverTheEnd);
        Check.sentence("10 in a row: not one below the other", SheetsEdgesTest::noPairBelow);
        Check.sentence("10 both not torn off", SheetsEdgesTest::noPairWithATornOne);
        Check.sentence("10 one inverted and one not: not both", SheetsEdgesTest::noPairOfTwoInverted);
        Check.sentence("10 inverted pairs: the most", SheetsEdgesTest::mostPairs);
        Check.sentence("10 inverted pairs: with other faults as well", SheetsEdgesTest::pairsWithOtherFaults);
        Check.sentence("10 the greatest block: all", SheetsEdgesTest::blockOfAll);
        Check.sentence("10 the greatest block: none", SheetsEdgesTest::blockOfNone);
        Check.sentence("10 the greatest block: one stamp", SheetsEdgesTest::blockOfOne);
        Check.sentence("10 the greatest block: one row", SheetsEdgesTest::blockOfARow);
        Check.sentence("10 the greatest block: one column", SheetsEdgesTest::blockOfAColumn);
        Check.sentence("10 the most stamps of a rectangle: each rectangle", SheetsEdgesTest::blockOfEachRectangle);
        Check.sentence("10 of a rectangle: not over the end of a row", SheetsEdgesTest::noBlockOverTheEnd);
        Check.sentence("10 of a rectangle: no other figure", SheetsEdgesTest::noBlockOfAnotherFigure);
        Check.sentence("10 the most stamps: the greater one of two", SheetsEdgesTest::greaterBlockOfTwo);
        Check.sentence("10 and without any fault", SheetsEdgesTest::blockWithoutEachFault);
    }

    private static void pin() {
        Check.sentence("11 how many rows it still strikes: with the least and the greatest strength",
                SheetsEdgesTest::rowsOfNewPins);
        Check.sentence("11 the one in which it breaks as well", SheetsEdgesTest::oneRowMore);
        Check.sentence("11 0 if it is broken", SheetsEdgesTest::noRowsOfABrokenPin);
        Check.sentence("11 1 if it is whole, else 0", SheetsEdgesTest::wholeOrNot);
        Check.sentence("11 how many rows it still strikes: so many it does", SheetsEdgesTest::rowsThatItDoesStrike);
        Check.sentence("11 Throws IndexOutOfBoundsException if pin is not 0 to 6", SheetsEdgesTest::noPin);
        Check.sentence("11 or what is not 0 to 3", SheetsEdgesTest::noAnswerOfAPin);
    }

    private static void count() {
        Check.sentence("12 sheets: none, and 20", SheetsEdgesTest::countOfSheets);
        Check.sentence("12 the feed: as it was held", SheetsEdgesTest::countOfTheFeed);
        Check.sentence("12 the drift: less than 0", SheetsEdgesTest::countOfTheDrift);
        Check.sentence("12 the error: less than 0", SheetsEdgesTest::countOfTheError);
        Check.sentence("12 rows that the roll has left: none", SheetsEdgesTest::countOfRowsLeft);
        Check.sentence("12 the step of its watermarks: of this roll", SheetsEdgesTest::countOfTheStep);
        Check.sentence("12 rows of this roll that ran: not of the ones before", SheetsEdgesTest::countOfRowsRun);
        Check.sentence("12 broken pins: none, all", SheetsEdgesTest::countOfBrokenPins);
        Check.sentence("12 inverted places of the plate: none, all", SheetsEdgesTest::countOfInvertedPlaces);
        Check.sentence("12 Throws IndexOutOfBoundsException if what is not 0 to 9", SheetsEdgesTest::noCount);
    }

    private static void countedTogether() {
        Check.sentence("12 the worth of all sheets, added: the most", SheetsEdgesTest::mostWorthOfAllSheets);
        Check.sentence("12 the worth of all sheets, added: torn ones are worth nothing", SheetsEdgesTest::worthWithTornOnes);
    }

    private static void noneAndAllFaults() {
        Check.due("none", Given.sheets(1).faults(0, 4, 5), 0);
        Check.due("all", Given.allFaults().faults(1, 0, 3), 31);
    }

    private static void faultsOfATornOne() {
        StampSheets x = Given.allFaults();
        x.tear(1, 0, 3);
        Check.due("all", x.faults(1, 0, 3), 31);
        x.tear(0, 0, 0);
        Check.due("none", x.faults(0, 0, 0), 0);
    }

    /** The call must refuse each sheet that is not there: with no sheet, with one, and with twenty. */
    private static void refusesNoSheet(String name, java.util.function.Function<StampSheets, Check.CallWith> of) {
        for (int sheets : new int[] {0, 1, 20}) {
            StampSheets x = Given.sheets(sheets);
            Check.noIndexOutside(0, sheets - 1, name + " of " + sheets, x, of.apply(x));
        }
    }

    private static void faultsOfNoSheet() {
        refusesNoSheet("faults(.., 0, 0)", x -> sheet -> x.faults(sheet, 0, 0));
    }

    private static void faultsOfNoRow() {
        StampSheets x = Given.sheets(2);
        Check.noIndexOutside(0, 4, "faults(0, .., 0)", x, row -> x.faults(0, row, 0));
        Check.noIndexOutside(0, 4, "faults(1, .., 5)", x, row -> x.faults(1, row, 5));
    }

    private static void faultsOfNoColumn() {
        StampSheets x = Given.sheets(2);
        Check.noIndexOutside(0, 5, "faults(0, 0, ..)", x, column -> x.faults(0, 0, column));
        Check.noIndexOutside(0, 5, "faults(1, 2, ..)", x, column -> x.faults(1, 2, column));
    }

    private static void onlyThisOne() {
        StampSheets x = Given.sheets(2);
        Check.due("tear(0, 0, 5)", x.tear(0, 0, 5), 1);
        Check.due("stamps left of its sheet", x.sheet(0, 0), 29);
        Check.due("stamps left of the other", x.sheet(1, 0), 30);
        Check.due("the one beside it", x.tear(0, 0, 4), 1);
        Check.due("the one behind it, in the next row", x.tear(0, 1, 0), 1);
        Check.due("the same place of the other sheet", x.tear(1, 0, 5), 1);
    }

    private static void tornThoughWorthNothing() {
        StampSheets x = Given.allFaults();
        Check.due("tear(1, 0, 3)", x.tear(1, 0, 3), 0);
        Check.due("stamps left", x.sheet(1, 0), 29);
        Check.noState("tear(1, 0, 3) again", x, () -> x.tear(1, 0, 3));
    }

    private static void tornWorthTheMost() {
        StampSheets x = new StampSheets();
        x.roll(5, 9);
        x.turn(4, 4);
        x.run();
        Check.due("tear(0, 4, 4), inverted, without watermark", x.tear(0, 4, 4), 25);
    }

    private static void tearOfNoSheet() {
        refusesNoSheet("tear(.., 0, 0)", x -> sheet -> x.tear(sheet, 0, 0));
    }

    private static void tearOfNoRow() {
        StampSheets x = Given.sheets(2);
        Check.noIndexOutside(0, 4, "tear(0, .., 0)", x, row -> x.tear(0, row, 0));
        Check.noIndexOutside(0, 4, "tear(1, .., 5)", x, row -> x.tear(1, row, 5));
    }

    private static void tearOfNoColumn() {
        StampSheets x = Given.sheets(2);
        Check.noIndexOutside(0, 5, "tear(0, 0, ..)", x, column -> x.tear(0, 0, column));
        Check.noIndexOutside(0, 5, "tear(1, 2, ..)", x, column -> x.tear(1, 2, column));
    }

    private static void tornTwice() {
        StampSheets x = Given.sheets(1);
        for (int place = 0; place < 30; place++) {
            int row = place / 6;
            int column = place % 6;
            x.tear(0, row, column);
            Check.noState("tear(0, " + row + ", " + column + ") again", x, () -> x.tear(0, row, column));
        }
    }

    private static void wrongIndexAheadOfTorn() {
        StampSheets x = Given.sheets(2);
        Given.tearAll(x, 0);
        Given.tearAll(x, 1);
        Check.noIndexOutside(0, 1, "tear(.., 0, 0)", x, sheet -> x.tear(sheet, 0, 0));
        Check.noIndexOutside(0, 4, "tear(0, .., 0)", x, row -> x.tear(0, row, 0));
        Check.noIndexOutside(0, 5, "tear(0, 2, ..)", x, column -> x.tear(0, 2, column));
    }

    private static void stampsLeft() {
        StampSheets x = Given.sheets(1);
        Check.due("all", x.sheet(0, 0), 30);
        for (int torn = 0; torn < 30; torn++) {
            x.tear(0, torn / 6, torn % 6);
            Check.due("behind " + (torn + 1), x.sheet(0, 0), 29 - torn);
        }
    }

    private static void stampsWithoutFault() {
        Check.due("all", Given.sheets(1).sheet(0, 1), 30);
        Check.due("none", Given.ranWith(30).sheet(0, 1), 0);
    }

    private static void tornOnesWithoutFault() {
        StampSheets x = Given.sheets(1);
        x.tear(0, 0, 0);
        Check.due("29 left", x.sheet(0, 1), 29);
        for (int place = 1; place < 30; place++) {
            x.tear(0, place / 6, place % 6);
        }
        Check.due("none left", x.sheet(0, 1), 0);
    }

    private static void eachFaultCounts() {
        int[] due = {18, 27, 27, 29, 15};
        for (int fault = 0; fault < 5; fault++) {
            Check.due("fault " + fault, Given.withFault(fault).sheet(0, 1), due[fault]);
        }
    }

    private static void leastAndMostWorth() {
        StampSheets x = Given.sheets(2);
        Given.tearAll(x, 1);
        Check.due("of torn ones", x.sheet(1, 2), 0);
        x.setFeed(10, 0);
        x.run();
        Check.due("of rows off", x.sheet(2, 2), 0);
        StampSheets y = new StampSheets();
        y.roll(20, 9);
        Given.turnAll(y);
        y.run();
        // (0, 0) and (4, 5) have a watermark.
        Check.due("of inverted ones without watermark", y.sheet(0, 2), 28 * 25 + 2 * 21);
    }

    private static void noneAndAllRowsOff() {
        StampSheets x = Given.sheets(1);
        Check.due("none", x.sheet(0, 4), 0);
        x.setFeed(27, 0);
        x.run();
        Check.due("all, above", x.sheet(1, 4), 5);
        x.align();
        x.setFeed(13, 0);
        x.run();
        Check.due("all, below", x.sheet(2, 4), 5);
    }

    private static void aPartOfTheRowsOff() {
        int[] feeds = {26, 24, 23, 22, 21};
        int[] due = {4, 4, 3, 2, 0};
        for (int i = 0; i < feeds.length; i++) {
            Check.due("with feed " + feeds[i], Given.ranWith(feeds[i]).sheet(0, 4), due[i]);
        }
    }

    private static void tornRowsOff() {
        StampSheets x = Given.ranWith(27);
        Given.tearAll(x, 0);
        Check.due("all rows torn off", x.sheet(0, 4), 5);
    }

    private static void answersOfNoSheet() {
        refusesNoSheet("sheet(.., 0)", x -> sheet -> x.sheet(sheet, 0));
        refusesNoSheet("sheet(.., 6)", x -> sheet -> x.sheet(sheet, 6));
    }

    private static void noAnswerOfASheet() {
        StampSheets x = Given.sheets(2);
        Check.noIndexOutside(0, 5, "sheet(0, ..)", x, what -> x.sheet(0, what));
        Check.noIndexOutside(0, 5, "sheet(1, ..)", x, what -> x.sheet(1, what));
    }

    /** A sheet without other faults in which these places, 6 * row + column, are inverted. */
    private static StampSheets inverted(int... places) {
        StampSheets x = Given.paper();
        for (int place : places) {
            x.turn(place / 6, place % 6);
        }
        x.run();
        return x;
    }

    private static void pairsAtBothEnds() {
        Check.due("without inverted ones", inverted().sheet(0, 3), 0);
        Check.due("(0, 0)", inverted(0).sheet(0, 3), 1);
        Check.due("(4, 5)", inverted(29).sheet(0, 3), 1);
        Check.due("(2, 2)", inverted(14).sheet(0, 3), 2);
        Check.due("(3, 4)", inverted(22).sheet(0, 3), 2);
    }

    private static void noPairOverTheEnd() {
        // The row 0 alone is inverted, so its end and the beginning of row 1 differ.
        Check.due("a row", inverted(0, 1, 2, 3, 4, 5).sheet(0, 3), 0);
    }

    private static void noPairBelow() {
        Check.due("the rows 1 and 3", inverted(6, 7, 8, 9, 10, 11, 18, 19, 20, 21, 22, 23).sheet(0, 3), 0);
    }

    private static void noPairWithATornOne() {
        StampSheets x = inverted(13, 15);
        Check.due("four pairs", x.sheet(0, 3), 4);
        x.tear(0, 2, 0);
        Check.due("the upright one at the left torn off", x.sheet(0, 3), 3);
        x.tear(0, 2, 4);
        Check.due("the upright one at the right torn off", x.sheet(0, 3), 2);
        x.tear(0, 2, 1);
        Check.due("the inverted one torn off", x.sheet(0, 3), 1);
        x.tear(0, 2, 2);
        Check.due("both of a pair torn off, or one", x.sheet(0, 3), 0);
    }

    private static void noPairOfTwoInverted() {
        Check.due("two at the left end", inverted(12, 13).sheet(0, 3), 1);
        StampSheets x = Given.paper();
        Given.turnAll(x);
        x.run();
        Check.due("all inverted", x.sheet(0, 3), 0);
    }

    private static void mostPairs() {
        Check.due("each second one", inverted(0, 2, 4, 7, 9, 11, 12, 14, 16, 19, 21, 23, 24, 26, 28).sheet(0, 3), 25);
    }

    private static void pairsWithOtherFaults() {
        StampSheets x = new StampSheets();
        x.roll(5, 9);
        x.turn(1, 1);
        x.setFeed(30, 0);
        x.run();
        Check.due("all rows off", x.sheet(0, 3), 2);
    }

    /** A sheet without faults whose stamps are torn off where the sign of the figure is a dot. */
    private static StampSheets torn(String... figure) {
        StampSheets x = Given.sheets(1);
        for (int place = 0; place < 30; place++) {
            if (figure[place / 6].charAt(place % 6) == '.') {
                x.tear(0, place / 6, place % 6);
            }
        }
        return x;
    }

    private static void blockOfAll() {
        Check.due("sheet(0, 5)", Given.sheets(1).sheet(0, 5), 30);
    }

    private static void blockOfNone() {
        Check.due("all torn off", torn("......", "......", "......", "......", "......").sheet(0, 5), 0);
        StampSheets x = Given.paper();
        Given.turnAll(x);
        x.run();
        Check.due("all inverted", x.sheet(0, 5), 0);
    }

    private static void blockOfOne() {
        Check.due("in the first place", torn("#.....", "......", "......", "......", "......").sheet(0, 5), 1);
        Check.due("in the last place", torn("......", "......", "......", "......", ".....#").sheet(0, 5), 1);
        Check.due("corner by corner", torn("#.#.#.", ".#.#.#", "#.#.#.", ".#.#.#", "#.#.#.").sheet(0, 5), 1);
    }

    private static void blockOfARow() {
        Check.due("the first", torn("######", "......", "......", "......", "......").sheet(0, 5), 6);
        Check.due("the last", torn("......", "......", "......", "......", "######").sheet(0, 5), 6);
    }

    private static void blockOfAColumn() {
        Check.due("the first", torn("#.....", "#.....", "#.....", "#.....", "#.....").sheet(0, 5), 5);
        Check.due("the last", torn(".....#", ".....#", ".....#", ".....#", ".....#").sheet(0, 5), 5);
    }

    private static void blockOfEachRectangle() {
        for (int corners = 0; corners < 900; corners++) {
            int top = corners / 30 / 6;
            int from = corners / 30 % 6;
            int bottom = corners % 30 / 6;
            int to = corners % 6;
            if (top <= bottom && from <= to) {
                StampSheets x = Given.sheets(1);
                tearAround(x, top, bottom, from, to);
                Check.due("rows " + top + " to " + bottom + ", columns " + from + " to " + to,
                        x.sheet(0, 5), (bottom - top + 1) * (to - from + 1));
            }
        }
    }

    private static void tearAround(StampSheets x, int top, int bottom, int from, int to) {
        for (int place = 0; place < 30; place++) {
            int row = place / 6;
            int column = place % 6;
            if (row < top || row > bottom || column < from || column > to) {
                x.tear(0, row, column);
            }
        }
    }

    private static void noBlockOverTheEnd() {
        Check.due("the end of row 1 and the beginning of row 2",
                torn("......", "...###", "###...", "......", "......").sheet(0, 5), 3);
    }

    private static void noBlockOfAnotherFigure() {
        Check.due("a cross", torn("..##..", "..##..", "######", "..##..", "..##..").sheet(0, 5), 10);
        Check.due("an angle", torn("#.....", "#.....", "#.....", "#.....", "######").sheet(0, 5), 6);
        Check.due("a frame", torn("######", "#....#", "#....#", "#....#", "######").sheet(0, 5), 6);
        Check.due("stairs", torn("#.....", "##....", "###...", "####..", "#####.").sheet(0, 5), 9);
    }

    private static void greaterBlockOfTwo() {
        Check.due("the upper one", torn("####..", "####..", "......", "..####", "......").sheet(0, 5), 8);
        Check.due("the lower one", torn("###...", "......", ".#####", ".#####", "......").sheet(0, 5), 10);
        Check.due("the high one, not the broad one", torn("..##..", "..##..", "..##..", "..##..", "######").sheet(0, 5), 10);
    }

    private static void blockWithoutEachFault() {
        // Rows 0 to 2; columns 1 to 5; columns 0 to 4; columns 3 to 5; each second stamp.
        int[] due = {18, 25, 25, 15, 1};
        for (int fault = 0; fault < 5; fault++) {
            Check.due("fault " + fault, Given.withFault(fault).sheet(0, 5), due[fault]);
        }
    }

    private static void rowsOfNewPins() {
        StampSheets x = new StampSheets();
        x.fit(0, 1);
        x.fit(6, 500);
        Check.due("strength 1", x.pin(0, 3), 2);
        Check.due("strength 200", x.pin(3, 3), 201);
        Check.due("strength 500", x.pin(6, 3), 501);
    }

    private static void oneRowMore() {
        StampSheets x = Given.paper();
        x.fit(3, 5);
        x.run();
        Check.due("strength 5, wear 5", x.pin(3, 3), 1);
    }

    private static void noRowsOfABrokenPin() {
        StampSheets x = Given.paper();
        x.fit(2, 1);
        x.fit(3, 4);
        x.run();
        Check.due("strength 1, broken some rows ago", x.pin(2, 3), 0);
        Check.due("strength 4, broken in the last row", x.pin(3, 3), 0);
    }

    private static void wholeOrNot() {
        StampSheets x = Given.paper();
        x.fit(3, 4);
        x.fit(4, 5);
        Check.due("of a new pin", x.pin(3, 2), 1);
        x.run();
        Check.due("a wear of more than its strength", x.pin(3, 2), 0);
        Check.due("a wear like its strength", x.pin(4, 2), 1);
        x.run();
        Check.due("a row later", x.pin(4, 2), 0);
    }

    private static void rowsThatItDoesStrike() {
        StampSheets x = Given.paper();
        x.fit(0, 12);
        x.run();
        Check.due("rows that it still strikes", x.pin(0, 3), 8);
        x.run();
        x.run();
        // 5 rows of sheet 1, and the rows 0 to 2 of sheet 2.
        Check.due("the last row that it strikes", x.faults(2, 2, 0), 0);
        Check.due("the first row that it does not strike", x.faults(2, 3, 0), 2);
    }

    private static void noPin() {
        StampSheets x = Given.sheets(1);
        Check.noIndexOutside(0, 6, "pin(.., 0)", x, pin -> x.pin(pin, 0));
        Check.noIndexOutside(0, 6, "pin(.., 4)", x, pin -> x.pin(pin, 4));
    }

    private static void noAnswerOfAPin() {
        StampSheets x = Given.sheets(1);
        Check.noIndexOutside(0, 3, "pin(0, ..)", x, what -> x.pin(0, what));
        Check.noIndexOutside(0, 3, "pin(6, ..)", x, what -> x.pin(6, what));
    }

    private static void countOfSheets() {
        Check.due("none", Given.paper().count(0), 0);
        Check.due("one", Given.sheets(1).count(0), 1);
        Check.due("20", Given.sheets(20).count(0), 20);
    }

    private static void countOfTheFeed() {
        StampSheets x = Given.paper();
        x.setFeed(30, 9);
        x.run();
        Check.due("30 and a drift of 9", x.count(1), 30);
        x.setFeed(10, -9);
        x.run();
        Check.due("10 and a drift of -9", x.count(1), 10);
    }

    private static void countOfTheDrift() {
        StampSheets x = Given.paper();
        x.setFeed(10, -9);
        x.run();
        Check.due("-9, behind a sheet", x.count(2), -9);
    }

    private static void countOfTheError() {
        StampSheets x = Given.ranWith(19);
        Check.due("with feed 19", x.count(3), -5);
        x.setFeed(21, 0);
        x.run();
        Check.due("with feed 21 behind it", x.count(3), 0);
    }

    private static void countOfRowsLeft() {
        StampSheets x = new StampSheets();
        Check.due("of a new one", x.count(4), 0);
        x.roll(400, 1);
        Check.due("of a new roll", x.count(4), 400);
        x.roll(5, 1);
        x.run();
        Check.due("of a roll that ran to its end", x.count(4), 0);
    }

    private static void countOfTheStep() {
        StampSheets x = new StampSheets();
        x.roll(5, 9);
        x.run();
        Check.due("of the first roll, at its end", x.count(5), 9);
        x.roll(5, 2);
        Check.due("of the second roll", x.count(5), 2);
    }

    private static void countOfRowsRun() {
        StampSheets x = Given.sheets(20);
        Check.due("of one roll", x.count(6), 100);
        x.roll(5, 1);
        Check.due("of a new roll", x.count(6), 0);
        StampSheets y = Given.sheets(3);
        y.roll(5, 1);
        y.run();
        Check.due("of the second roll", y.count(6), 5);
    }

    private static void countOfBrokenPins() {
        StampSheets x = Given.paper();
        for (int pin = 0; pin < 7; pin++) {
            x.fit(pin, 4);
        }
        Check.due("none", x.count(7), 0);
        x.run();
        Check.due("all", x.count(7), 7);
        x.fit(0, 1);
        x.fit(6, 1);
        Check.due("without the first and the last", x.count(7), 5);
    }

    private static void countOfInvertedPlaces() {
        StampSheets x = new StampSheets();
        Check.due("none", x.count(8), 0);
        Given.turnAll(x);
        Check.due("all", x.count(8), 30);
        x.turn(0, 0);
        x.turn(4, 5);
        Check.due("without the first and the last", x.count(8), 28);
    }

    private static void mostWorthOfAllSheets() {
        StampSheets x = new StampSheets();
        x.roll(400, 9);
        Given.turnAll(x);
        int due = 0;
        for (int sheet = 0; sheet < 20; sheet++) {
            x.run();
            for (int place = 0; place < 30; place++) {
                int sum = 5 * sheet + place / 6 + place % 6;
                due += sum / 9 * 9 == sum ? 21 : 25;
            }
        }
        Check.due("20 sheets of inverted ones, with few watermarks", x.count(9), due);
    }

    private static void worthWithTornOnes() {
        StampSheets x = Given.sheets(20);
        Check.due("all", x.count(9), 600);
        Given.tearAll(x, 0);
        Given.tearAll(x, 19);
        Check.due("two sheets torn up", x.count(9), 540);
        StampSheets y = Given.sheets(1);
        Given.tearAll(y, 0);
        Check.due("the one sheet torn up", y.count(9), 0);
    }

    private static void noCount() {
        StampSheets x = Given.sheets(1);
        Check.noIndexOutside(0, 9, "count(..)", x, x::count);
    }
}
