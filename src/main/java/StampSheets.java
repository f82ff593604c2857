/** A perforator of stamp sheets. */
public final class StampSheets {
    private static final int MOST_SHEETS = 20;
    private static final int ROWS = 5;
    private static final int COLUMNS = 6;
    private static final int STAMPS = 30;
    private static final int PINS = 7;

    private static final int LEAST_FEED = 10;
    private static final int EVEN_FEED = 20;
    private static final int MOST_FEED = 30;
    private static final int MOST_DRIFT = 9;
    private static final int MOST_ERROR = 6;
    private static final int MOST_ROLL_ROWS = 400;
    private static final int MOST_STEP = 9;
    private static final int FIRST_STRENGTH = 200;
    private static final int MOST_STRENGTH = 500;

    private static final int ROW_OFF = 1;
    private static final int NO_HOLES_LEFT = 2;
    private static final int NO_HOLES_RIGHT = 4;
    private static final int INVERTED = 8;
    private static final int NO_WATERMARK = 16;
    private static final int WORTHLESS = ROW_OFF | NO_HOLES_LEFT | NO_HOLES_RIGHT;
    private static final int ALL_FAULTS = 31;

    private static final int SHEET_ANSWERS = 6;
    private static final int PIN_ANSWERS = 4;
    private static final int COUNT_ANSWERS = 10;
    private static final int FORESEE_ANSWERS = 4;
    private static final long DIGEST_START = 1069L;

    private final Machine machine;
    private final Trial trial;
    private final boolean[] plateInverted;
    private final Sheet[] sheetStore;
    private int sheetCount;

    public StampSheets() {
        machine = new Machine();
        trial = new Trial();
        plateInverted = new boolean[STAMPS];
        sheetStore = new Sheet[MOST_SHEETS];
        for (int number = 0; number < MOST_SHEETS; number++) {
            sheetStore[number] = new Sheet();
        }
    }

    // ---- machine and plate

    public int setFeed(int feed, int drift) throws IllegalArgumentException {
        if (!isWithin(feed, LEAST_FEED, MOST_FEED) || !isWithin(drift, -MOST_DRIFT, MOST_DRIFT)) {
            throw new IllegalArgumentException("feed is not 10 to 30, or drift is not -9 to 9");
        }
        int before = 100 * machine.feed + machine.drift;
        machine.feed = feed;
        machine.drift = drift;
        return before;
    }

    public int align() {
        int before = machine.error;
        machine.error = 0;
        return before;
    }

    public int roll(int rows, int step) throws IllegalArgumentException {
        if (!isWithin(rows, 1, MOST_ROLL_ROWS) || !isWithin(step, 1, MOST_STEP)) {
            throw new IllegalArgumentException("rows is not 1 to 400, or step is not 1 to 9");
        }
        int left = machine.rowsLeft;
        machine.rowsLeft = rows;
        machine.rowsRun = 0;
        machine.step = step;
        return left;
    }

    public int fit(int pin, int strength) throws IndexOutOfBoundsException, IllegalArgumentException {
        checkPin(pin);
        if (!isWithin(strength, 1, MOST_STRENGTH)) {
            throw new IllegalArgumentException("strength is not 1 to 500");
        }
        Pin fitted = machine.pins[pin];
        int before = fitted.wear;
        fitted.strength = strength;
        fitted.wear = 0;
        return before;
    }

    public boolean turn(int row, int column) throws IndexOutOfBoundsException {
        checkPlace(row, column);
        int place = COLUMNS * row + column;
        plateInverted[place] = !plateInverted[place];
        return plateInverted[place];
    }

    public int run() throws IllegalStateException {
        if (sheetCount >= MOST_SHEETS || machine.rowsLeft < ROWS) {
            throw new IllegalStateException("there are 20 sheets, or the roll has less than 5 rows left");
        }
        machine.perforate(plateInverted, sheetStore[sheetCount]);
        sheetCount++;
        return sheetCount - 1;
    }

    // ---- sheets

    public int faults(int sheet, int row, int column) throws IndexOutOfBoundsException {
        checkSheet(sheet);
        checkPlace(row, column);
        return sheetStore[sheet].faultSets[COLUMNS * row + column];
    }

    public int tear(int sheet, int row, int column)
            throws IndexOutOfBoundsException, IllegalStateException {
        checkSheet(sheet);
        checkPlace(row, column);
        Sheet torn = sheetStore[sheet];
        int stamp = COLUMNS * row + column;
        if (torn.tornOff[stamp]) {
            throw new IllegalStateException("the stamp is torn off");
        }
        int before = torn.worthOf(stamp);
        torn.tornOff[stamp] = true;
        return before;
    }

    public int sheet(int sheet, int what) throws IndexOutOfBoundsException {
        checkSheet(sheet);
        checkWhat(what, SHEET_ANSWERS);
        return sheetStore[sheet].answer(what);
    }

    public int pin(int pin, int what) throws IndexOutOfBoundsException {
        checkPin(pin);
        checkWhat(what, PIN_ANSWERS);
        return machine.pins[pin].answer(what);
    }

    public int count(int what) throws IndexOutOfBoundsException {
        checkWhat(what, COUNT_ANSWERS);
        return countAnswer(what);
    }

    // ---- what would be

    public int foresee(int sheets, int what) throws IllegalArgumentException, IndexOutOfBoundsException {
        checkSheetsToRun(sheets);
        checkWhat(what, FORESEE_ANSWERS);
        trial.perforateFrom(machine, machine.feed, plateInverted, sheets);
        return trial.answer(what);
    }

    public int advise(int sheets) throws IllegalArgumentException {
        checkSheetsToRun(sheets);
        int best = LEAST_FEED;
        int most = -1;
        for (int feed = LEAST_FEED; feed <= MOST_FEED; feed++) {
            trial.perforateFrom(machine, feed, plateInverted, sheets);
            if (trial.faultless > most) {
                most = trial.faultless;
                best = feed;
            }
        }
        return best;
    }

    public int like(int mask) throws IllegalArgumentException {
        if (!isWithin(mask, 0, ALL_FAULTS)) {
            throw new IllegalArgumentException("mask is not 0 to 31");
        }
        return stampsWith(mask);
    }

    public double share() {
        int ran = STAMPS * sheetCount;
        if (ran == 0) {
            return 0.0;
        }
        return (double) stampsWith(0) / (double) ran;
    }

    public long digest() {
        long d = DIGEST_START;
        for (int what = 0; what < COUNT_ANSWERS; what++) {
            d = d * 31 + countAnswer(what);
        }
        for (int pin = 0; pin < PINS; pin++) {
            for (int what = 0; what < PIN_ANSWERS; what++) {
                d = d * 31 + machine.pins[pin].answer(what);
            }
        }
        for (int number = 0; number < sheetCount; number++) {
            d = sheetStore[number].addToDigest(d);
        }
        return d;
    }

    // ---- behind the face

    private static boolean isWithin(int number, int least, int most) {
        return number >= least && number <= most;
    }

    private static void checkPin(int pin) {
        if (!isWithin(pin, 0, PINS - 1)) {
            throw new IndexOutOfBoundsException("pin is not 0 to 6");
        }
    }

    private static void checkPlace(int row, int column) {
        if (!isWithin(row, 0, ROWS - 1) || !isWithin(column, 0, COLUMNS - 1)) {
            throw new IndexOutOfBoundsException("row is not 0 to 4, or column is not 0 to 5");
        }
    }

    private void checkSheet(int sheet) {
        if (!isWithin(sheet, 0, sheetCount - 1)) {
            throw new IndexOutOfBoundsException("there is no such sheet");
        }
    }

    private static void checkWhat(int what, int answers) {
        if (!isWithin(what, 0, answers - 1)) {
            throw new IndexOutOfBoundsException("there is no such answer");
        }
    }

    private static void checkSheetsToRun(int sheets) {
        if (!isWithin(sheets, 1, MOST_SHEETS)) {
            throw new IllegalArgumentException("sheets is not 1 to 20");
        }
    }

    private int countAnswer(int what) {
        switch (what) {
            case 0: return sheetCount;
            case 1: return machine.feed;
            case 2: return machine.drift;
            case 3: return machine.error;
            case 4: return machine.rowsLeft;
            case 5: return machine.step;
            case 6: return machine.rowsRun;
            case 7: return machine.brokenPins();
            case 8: return invertedPlaces();
            default: return worthOfSheets();
        }
    }

    private int invertedPlaces() {
        int inverted = 0;
        for (int place = 0; place < STAMPS; place++) {
            if (plateInverted[place]) {
                inverted++;
            }
        }
        return inverted;
    }

    private int worthOfSheets() {
        int worth = 0;
        for (int number = 0; number < sheetCount; number++) {
            worth += sheetStore[number].worth();
        }
        return worth;
    }

    private int stampsWith(int mask) {
        int stamps = 0;
        for (int number = 0; number < sheetCount; number++) {
            stamps += sheetStore[number].leftWith(mask);
        }
        return stamps;
    }

    /** A pin of the comb; more wear than strength is what makes it broken. */
    private static final class Pin {
        private int strength = FIRST_STRENGTH;
        private int wear;

        boolean isWhole() {
            return wear <= strength;
        }

        void strike() {
            if (isWhole()) {
                wear++;
            }
        }

        void becomeLike(Pin other) {
            strength = other.strength;
            wear = other.wear;
        }

        int answer(int what) {
            switch (what) {
                case 0: return strength;
                case 1: return wear;
                case 2: return isWhole() ? 1 : 0;
                // The one more is the strike that breaks it.
                default: return isWhole() ? strength - wear + 1 : 0;
            }
        }
    }

    /** Feed, roll and comb. */
    private static final class Machine {
        private final Pin[] pins;
        private int feed = EVEN_FEED;
        private int drift;
        private int error;
        private int rowsLeft;
        private int rowsRun;
        private int step = 1;

        Machine() {
            pins = new Pin[PINS];
            for (int pin = 0; pin < PINS; pin++) {
                pins[pin] = new Pin();
            }
        }

        void becomeLike(Machine other) {
            for (int pin = 0; pin < PINS; pin++) {
                pins[pin].becomeLike(other.pins[pin]);
            }
            feed = other.feed;
            drift = other.drift;
            error = other.error;
            rowsLeft = other.rowsLeft;
            rowsRun = other.rowsRun;
            step = other.step;
        }

        /** Whether the roll is long enough is for the caller to know: a trial runs past its end. */
        void perforate(boolean[] plateInverted, Sheet sheet) {
            for (int row = 0; row < ROWS; row++) {
                error += feed - EVEN_FEED;
                markRow(row, plateInverted, sheet);
                // A pin that breaks in this row has struck it, so the strikes come behind the marks.
                strikeAll();
                rowsLeft--;
                rowsRun++;
            }
            feed = Math.max(LEAST_FEED, Math.min(MOST_FEED, feed + drift));
        }

        private void markRow(int row, boolean[] plateInverted, Sheet sheet) {
            int rowFaults = isWithin(error, -MOST_ERROR, MOST_ERROR) ? 0 : ROW_OFF;
            for (int column = 0; column < COLUMNS; column++) {
                int stamp = COLUMNS * row + column;
                int set = rowFaults | holeFaults(column);
                if (plateInverted[stamp]) {
                    set |= INVERTED;
                }
                if (!hasWatermark(column)) {
                    set |= NO_WATERMARK;
                }
                sheet.faultSets[stamp] = set;
            }
        }

        private int holeFaults(int column) {
            int set = 0;
            if (!pins[column].isWhole()) {
                set |= NO_HOLES_LEFT;
            }
            if (!pins[column + 1].isWhole()) {
                set |= NO_HOLES_RIGHT;
            }
            return set;
        }

        private boolean hasWatermark(int column) {
            return step > 0 && (rowsRun + column) % step == 0;
        }

        private void strikeAll() {
            for (int pin = 0; pin < PINS; pin++) {
                pins[pin].strike();
            }
        }

        int brokenPins() {
            int broken = 0;
            for (int pin = 0; pin < PINS; pin++) {
                if (!pins[pin].isWhole()) {
                    broken++;
                }
            }
            return broken;
        }
    }

    /** A sheet that ran; its stamps are numbered 6 * row + column. */
    private static final class Sheet {
        private final int[] faultSets;
        private final boolean[] tornOff;

        Sheet() {
            faultSets = new int[STAMPS];
            tornOff = new boolean[STAMPS];
        }

        int answer(int what) {
            switch (what) {
                case 0: return left();
                case 1: return leftWith(0);
                case 2: return worth();
                case 3: return invertedPairs();
                case 4: return rowsOff();
                default: return greatestBlock();
            }
        }

        int worthOf(int stamp) {
            int set = faultSets[stamp];
            if (tornOff[stamp] || (set & WORTHLESS) != 0) {
                return 0;
            }
            int worth = 1;
            if ((set & INVERTED) != 0) {
                worth += 20;
            }
            if ((set & NO_WATERMARK) != 0) {
                worth += 4;
            }
            return worth;
        }

        int worth() {
            int worth = 0;
            for (int stamp = 0; stamp < STAMPS; stamp++) {
                worth += worthOf(stamp);
            }
            return worth;
        }

        private int left() {
            int stamps = 0;
            for (int stamp = 0; stamp < STAMPS; stamp++) {
                if (!tornOff[stamp]) {
                    stamps++;
                }
            }
            return stamps;
        }

        private boolean isLeftWith(int stamp, int set) {
            return !tornOff[stamp] && faultSets[stamp] == set;
        }

        int leftWith(int set) {
            int stamps = 0;
            for (int stamp = 0; stamp < STAMPS; stamp++) {
                if (isLeftWith(stamp, set)) {
                    stamps++;
                }
            }
            return stamps;
        }

        private int invertedPairs() {
            int pairs = 0;
            for (int row = 0; row < ROWS; row++) {
                for (int column = 0; column < COLUMNS - 1; column++) {
                    if (isInvertedPair(COLUMNS * row + column)) {
                        pairs++;
                    }
                }
            }
            return pairs;
        }

        private boolean isInvertedPair(int leftStamp) {
            int rightStamp = leftStamp + 1;
            return !tornOff[leftStamp] && !tornOff[rightStamp]
                    && ((faultSets[leftStamp] ^ faultSets[rightStamp]) & INVERTED) != 0;
        }

        private int rowsOff() {
            int rows = 0;
            for (int row = 0; row < ROWS; row++) {
                // A row is off as a whole, so its first stamp tells it.
                if ((faultSets[COLUMNS * row] & ROW_OFF) != 0) {
                    rows++;
                }
            }
            return rows;
        }

        /** For each top row the columns that are still good are kept as bits while the bottom goes down. */
        private int greatestBlock() {
            int greatest = 0;
            for (int top = 0; top < ROWS; top++) {
                int good = goodColumns(top);
                for (int bottom = top; bottom < ROWS; bottom++) {
                    good &= goodColumns(bottom);
                    greatest = Math.max(greatest, (bottom - top + 1) * longestRun(good));
                }
            }
            return greatest;
        }

        private int goodColumns(int row) {
            int good = 0;
            for (int column = 0; column < COLUMNS; column++) {
                if (isLeftWith(COLUMNS * row + column, 0)) {
                    good |= 1 << column;
                }
            }
            return good;
        }

        private static int longestRun(int columns) {
            int longest = 0;
            int length = 0;
            for (int column = 0; column < COLUMNS; column++) {
                length = (columns & (1 << column)) != 0 ? length + 1 : 0;
                longest = Math.max(longest, length);
            }
            return longest;
        }

        long addToDigest(long digest) {
            long d = digest;
            for (int what = 0; what < SHEET_ANSWERS; what++) {
                d = d * 31 + answer(what);
            }
            for (int stamp = 0; stamp < STAMPS; stamp++) {
                d = d * 31 + faultSets[stamp];
                d = d * 31 + worthOf(stamp);
            }
            return d;
        }
    }

    /** Sheets that are run on a copy of the machine; made once and used again, so that no call makes objects. */
    private static final class Trial {
        private final Machine machine;
        private final Sheet sheet;
        private int faultless;
        private int worth;

        Trial() {
            machine = new Machine();
            sheet = new Sheet();
        }

        void perforateFrom(Machine now, int feed, boolean[] plateInverted, int sheets) {
            machine.becomeLike(now);
            machine.feed = feed;
            faultless = 0;
            worth = 0;
            for (int ran = 0; ran < sheets; ran++) {
                machine.perforate(plateInverted, sheet);
                faultless += sheet.leftWith(0);
                worth += sheet.worth();
            }
        }

        int answer(int what) {
            switch (what) {
                case 0: return faultless;
                case 1: return worth;
                case 2: return machine.brokenPins();
                default: return machine.error;
            }
        }
    }
}
