/** Objects with which a test begins. */
final class Given {
    private Given() {
    }

    /** A long roll whose stamps all have a watermark. */
    static StampSheets paper() {
        StampSheets x = new StampSheets();
        x.roll(400, 1);
        return x;
    }

    /** Sheets without any fault. */
    static StampSheets sheets(int sheets) {
        StampSheets x = paper();
        for (int ran = 0; ran < sheets; ran++) {
            x.run();
        }
        return x;
    }

    /** One sheet ran with this feed, so that the error is five times as much as the feed less 20. */
    static StampSheets ranWith(int feed) {
        StampSheets x = paper();
        x.setFeed(feed, 0);
        x.run();
        return x;
    }

    static void turnAll(StampSheets x) {
        for (int place = 0; place < 30; place++) {
            x.turn(place / 6, place % 6);
        }
    }

    static void tearAll(StampSheets x, int sheet) {
        for (int place = 0; place < 30; place++) {
            x.tear(sheet, place / 6, place % 6);
        }
    }

    /**
     * A sheet in which no stamp has another fault than this one: the rows 3 and 4 are off; the column 0 lacks holes
     * in the rows 2 to 4; the column 5 does; (2, 2) is inverted; each second stamp has no watermark.
     */
    static StampSheets withFault(int fault) {
        StampSheets x = new StampSheets();
        x.roll(5, fault == 4 ? 2 : 1);
        if (fault == 0) {
            // The errors are 2, 4, 6, 8 and 10.
            x.setFeed(22, 0);
        } else if (fault == 1) {
            x.fit(0, 1);
        } else if (fault == 2) {
            x.fit(6, 1);
        } else if (fault == 3) {
            x.turn(2, 2);
        }
        x.run();
        return x;
    }

    /** One sheet ran; pins near their end, a drift, inverted places and a torn stamp. */
    static StampSheets busy() {
        StampSheets x = new StampSheets();
        x.roll(400, 2);
        x.turn(0, 4);
        x.turn(3, 3);
        x.fit(2, 17);
        x.fit(4, 23);
        x.setFeed(21, -1);
        x.run();
        x.tear(0, 3, 3);
        return x;
    }

    /** Two sheets; the stamp in row 0 and column 3 of sheet 1 has all five faults. */
    static StampSheets allFaults() {
        StampSheets x = paper();
        x.fit(3, 1);
        x.fit(4, 1);
        x.run();
        x.roll(400, 2);
        x.turn(0, 3);
        x.setFeed(30, 0);
        x.run();
        return x;
    }
}
