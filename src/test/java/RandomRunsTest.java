import java.util.Random;

/** All promises: runs of 512 calls, drawn with written seeds, on the program and on the plain model. */
public final class RandomRunsTest {
    private static final int RUNS = 300;
    private static final int CALLS = 512;
    private static final int[] FAR = {-1, Integer.MIN_VALUE, Integer.MAX_VALUE, 1 << 30, -(1 << 30)};

    private final Random random;
    private final StampSheets x = new StampSheets();
    private final PlainModel y = new PlainModel();

    private RandomRunsTest(long seed) {
        random = new Random(seed);
    }

    public static void main(String[] args) {
        for (int seed = 0; seed < RUNS; seed++) {
            RandomRunsTest run = new RandomRunsTest(seed);
            for (int call = 0; call < CALLS; call++) {
                run.oneCall("seed " + seed + ", call " + call + ": ");
            }
        }
        Check.end();
    }

    /** Mostly least to most; now and then just outside, or far away. */
    private int number(int least, int most) {
        int way = random.nextInt(60);
        if (way == 0) {
            return least - 1;
        }
        if (way == 1) {
            return most + 1;
        }
        if (way == 2) {
            return FAR[random.nextInt(FAR.length)];
        }
        return least + random.nextInt(most - least + 1);
    }

    private int feedNumber() {
        return random.nextInt(3) == 0 ? number(10, 30) : number(18, 22);
    }

    private int driftNumber() {
        return random.nextInt(3) == 0 ? number(-9, 9) : number(-1, 1);
    }

    private int strengthNumber() {
        return random.nextInt(3) == 0 ? number(1, 500) : number(1, 40);
    }

    private void same(String call, Check.Call ours, Check.Call model) {
        Check.due(call, Check.outcome(ours), Check.outcome(model));
    }

    private void oneCall(String where) {
        int kind = random.nextInt(27);
        if (kind < 9) {
            machineCall(where, kind);
        } else if (kind < 15) {
            sheetCall(where, kind);
        } else if (kind < 22) {
            wouldBeCall(where, kind);
        } else {
            same(where + "digest()", x::digest, y::digest);
        }
    }

    private void machineCall(String where, int kind) {
        switch (kind) {
            case 0 -> {
                int feed = feedNumber();
                int drift = driftNumber();
                same(where + "setFeed(" + feed + ", " + drift + ")", () -> x.setFeed(feed, drift), () -> y.setFeed(feed, drift));
            }
            case 1 -> same(where + "align()", x::align, y::align);
            case 2 -> {
                int rows = random.nextInt(4) == 0 ? number(1, 9) : number(1, 400);
                int step = random.nextInt(2) == 0 ? 1 : number(1, 9);
                same(where + "roll(" + rows + ", " + step + ")", () -> x.roll(rows, step), () -> y.roll(rows, step));
            }
            case 3, 4 -> {
                int pin = number(0, 6);
                int strength = strengthNumber();
                same(where + "fit(" + pin + ", " + strength + ")", () -> x.fit(pin, strength), () -> y.fit(pin, strength));
            }
            case 5 -> {
                int row = number(0, 4);
                int column = number(0, 5);
                same(where + "turn(" + row + ", " + column + ")", () -> x.turn(row, column), () -> y.turn(row, column));
            }
            default -> {
                // Few runs of sheets, so that the twenty are spread over the calls.
                if (random.nextInt(5) == 0) {
                    same(where + "run()", x::run, y::run);
                }
            }
        }
    }

    private void sheetCall(String where, int kind) {
        int sheet = number(0, Math.max(0, y.faults.size() - 1));
        int row = number(0, 4);
        int column = number(0, 5);
        String place = sheet + ", " + row + ", " + column + ")";
        switch (kind) {
            case 9 -> same(where + "faults(" + place, () -> x.faults(sheet, row, column), () -> y.faults(sheet, row, column));
            case 10, 11 -> same(where + "tear(" + place, () -> x.tear(sheet, row, column), () -> y.tear(sheet, row, column));
            case 12 -> {
                int what = number(0, 5);
                same(where + "sheet(" + sheet + ", " + what + ")", () -> x.sheet(sheet, what), () -> y.sheet(sheet, what));
            }
            case 13 -> {
                int pin = number(0, 6);
                int what = number(0, 3);
                same(where + "pin(" + pin + ", " + what + ")", () -> x.pin(pin, what), () -> y.pin(pin, what));
            }
            default -> {
                int what = number(0, 9);
                same(where + "count(" + what + ")", () -> x.count(what), () -> y.count(what));
            }
        }
    }

    private void wouldBeCall(String where, int kind) {
        int sheets = number(1, 20);
        switch (kind) {
            case 15, 16 -> {
                int what = number(0, 3);
                same(where + "foresee(" + sheets + ", " + what + ")", () -> x.foresee(sheets, what), () -> y.foresee(sheets, what));
            }
            case 17, 18 -> same(where + "advise(" + sheets + ")", () -> x.advise(sheets), () -> y.advise(sheets));
            case 19, 20 -> {
                int mask = number(0, 31);
                same(where + "like(" + mask + ")", () -> x.like(mask), () -> y.like(mask));
            }
            default -> same(where + "share()", x::share, y::share);
        }
    }
}
