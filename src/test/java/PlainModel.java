import java.util.ArrayList;
import java.util.List;

/**
 * The document's promises once more, in the plainest words and without a thought of speed, so that
 * RandomRunsTest has a second opinion. It shares nothing with the program: whole lists are copied for
 * what would be, and all rectangles are tried for a block.
 */
final class PlainModel {
    int feed = 20;
    int drift = 0;
    int error = 0;
    int left = 0;
    int ran = 0;
    int step = 1;
    int[] strength = {200, 200, 200, 200, 200, 200, 200};
    int[] wear = new int[7];
    boolean[] broken = new boolean[7];
    boolean[][] inverted = new boolean[5][6];
    final List<int[][]> faults = new ArrayList<>();
    final List<boolean[][]> torn = new ArrayList<>();

    private static void index(boolean holds) {
        if (!holds) {
            throw new IndexOutOfBoundsException();
        }
    }

    private static void argument(boolean holds) {
        if (!holds) {
            throw new IllegalArgumentException();
        }
    }

    private static void state(boolean holds) {
        if (!holds) {
            throw new IllegalStateException();
        }
    }

    private void stamp(int sheet, int row, int column) {
        index(sheet >= 0 && sheet < faults.size());
        index(row >= 0 && row <= 4);
        index(column >= 0 && column <= 5);
    }

    int setFeed(int newFeed, int newDrift) {
        argument(newFeed >= 10 && newFeed <= 30 && newDrift >= -9 && newDrift <= 9);
        int before = 100 * feed + drift;
        feed = newFeed;
        drift = newDrift;
        return before;
    }

    int align() {
        int before = error;
        error = 0;
        return before;
    }

    int roll(int rows, int newStep) {
        argument(rows >= 1 && rows <= 400 && newStep >= 1 && newStep <= 9);
        int before = left;
        left = rows;
        ran = 0;
        step = newStep;
        return before;
    }

    int fit(int pin, int newStrength) {
        index(pin >= 0 && pin <= 6);
        argument(newStrength >= 1 && newStrength <= 500);
        int before = wear[pin];
        wear[pin] = 0;
        strength[pin] = newStrength;
        broken[pin] = false;
        return before;
    }

    boolean turn(int row, int column) {
        index(row >= 0 && row <= 4 && column >= 0 && column <= 5);
        inverted[row][column] ^= true;
        return inverted[row][column];
    }

    int run() {
        state(faults.size() < 20 && left >= 5);
        perforate();
        return faults.size() - 1;
    }

    private void perforate() {
        int[][] sheet = new int[5][6];
        for (int row = 0; row < 5; row++) {
            error = error + feed - 20;
            for (int column = 0; column < 6; column++) {
                sheet[row][column] = (error < -6 || error > 6 ? 1 : 0)
                        + (inverted[row][column] ? 8 : 0)
                        + ((ran + column) % step != 0 ? 16 : 0);
            }
            for (int pin = 0; pin < 7; pin++) {
                if (broken[pin]) {
                    if (pin < 6) {
                        sheet[row][pin] += 2;
                    }
                    if (pin > 0) {
                        sheet[row][pin - 1] += 4;
                    }
                } else {
                    wear[pin]++;
                    broken[pin] = wear[pin] > strength[pin];
                }
            }
            left--;
            ran++;
        }
        feed += drift;
        feed = feed > 30 ? 30 : feed < 10 ? 10 : feed;
        faults.add(sheet);
        torn.add(new boolean[5][6]);
    }

    int faults(int sheet, int row, int column) {
        stamp(sheet, row, column);
        return faults.get(sheet)[row][column];
    }

    private int worth(int sheet, int row, int column) {
        int set = faults.get(sheet)[row][column];
        if (torn.get(sheet)[row][column] || set % 8 != 0) {
            return 0;
        }
        return new int[] {1, 21, 5, 25}[set / 8];
    }

    int tear(int sheet, int row, int column) {
        stamp(sheet, row, column);
        state(!torn.get(sheet)[row][column]);
        int before = worth(sheet, row, column);
        torn.get(sheet)[row][column] = true;
        return before;
    }

    private boolean faultless(int sheet, int row, int column) {
        return !torn.get(sheet)[row][column] && faults.get(sheet)[row][column] == 0;
    }

    private int block(int sheet) {
        int most = 0;
        for (int top = 0; top < 5; top++) {
            for (int bottom = top; bottom < 5; bottom++) {
                for (int from = 0; from < 6; from++) {
                    for (int to = from; to < 6; to++) {
                        boolean all = true;
                        for (int row = top; row <= bottom; row++) {
                            for (int column = from; column <= to; column++) {
                                all &= faultless(sheet, row, column);
                            }
                        }
                        most = all ? Math.max(most, (bottom - top + 1) * (to - from + 1)) : most;
                    }
                }
            }
        }
        return most;
    }

    int sheet(int sheet, int what) {
        index(sheet >= 0 && sheet < faults.size() && what >= 0 && what <= 5);
        if (what == 5) {
            return block(sheet);
        }
        int[] told = new int[5];
        for (int row = 0; row < 5; row++) {
            told[4] += faults.get(sheet)[row][3] % 2;
            for (int column = 0; column < 6; column++) {
                told[0] += torn.get(sheet)[row][column] ? 0 : 1;
                told[1] += faultless(sheet, row, column) ? 1 : 0;
                told[2] += worth(sheet, row, column);
                if (column > 0 && !torn.get(sheet)[row][column - 1] && !torn.get(sheet)[row][column]) {
                    int one = faults.get(sheet)[row][column - 1] / 8 % 2;
                    int other = faults.get(sheet)[row][column] / 8 % 2;
                    told[3] += one + other == 1 ? 1 : 0;
                }
            }
        }
        return told[what];
    }

    int pin(int pin, int what) {
        index(pin >= 0 && pin <= 6 && what >= 0 && what <= 3);
        int strikes = broken[pin] ? 0 : strength[pin] + 1 - wear[pin];
        return new int[] {strength[pin], wear[pin], broken[pin] ? 0 : 1, strikes}[what];
    }

    int count(int what) {
        index(what >= 0 && what <= 9);
        int brokenPins = 0;
        for (boolean b : broken) {
            brokenPins += b ? 1 : 0;
        }
        int turned = 0;
        for (boolean[] row : inverted) {
            for (boolean place : row) {
                turned += place ? 1 : 0;
            }
        }
        int all = 0;
        for (int sheet = 0; sheet < faults.size(); sheet++) {
            all += sheet(sheet, 2);
        }
        return new int[] {faults.size(), feed, drift, error, left, step, ran, brokenPins, turned, all}[what];
    }

    private PlainModel withoutSheets() {
        PlainModel copy = new PlainModel();
        copy.feed = feed;
        copy.drift = drift;
        copy.error = error;
        copy.left = left;
        copy.ran = ran;
        copy.step = step;
        copy.strength = strength.clone();
        copy.wear = wear.clone();
        copy.broken = broken.clone();
        copy.inverted = inverted;
        return copy;
    }

    int foresee(int sheets, int what) {
        argument(sheets >= 1 && sheets <= 20);
        index(what >= 0 && what <= 3);
        PlainModel then = withoutSheets();
        int faultless = 0;
        for (int sheet = 0; sheet < sheets; sheet++) {
            then.perforate();
            faultless += then.sheet(sheet, 1);
        }
        return new int[] {faultless, then.count(9), then.count(7), then.error}[what];
    }

    int advise(int sheets) {
        argument(sheets >= 1 && sheets <= 20);
        int best = 30;
        int most = -1;
        for (int tried = 30; tried >= 10; tried--) {
            PlainModel then = withoutSheets();
            then.feed = tried;
            int faultless = then.foresee(sheets, 0);
            if (faultless >= most) {
                most = faultless;
                best = tried;
            }
        }
        return best;
    }

    int like(int mask) {
        argument(mask >= 0 && mask <= 31);
        int stamps = 0;
        for (int sheet = 0; sheet < faults.size(); sheet++) {
            for (int place = 0; place < 30; place++) {
                boolean is = faults.get(sheet)[place / 6][place % 6] == mask;
                stamps += is && !torn.get(sheet)[place / 6][place % 6] ? 1 : 0;
            }
        }
        return stamps;
    }

    double share() {
        return faults.isEmpty() ? 0.0 : like(0) / (30.0 * faults.size());
    }

    long digest() {
        List<Integer> numbers = new ArrayList<>();
        for (int what = 0; what < 10; what++) {
            numbers.add(count(what));
        }
        for (int pin = 0; pin < 7; pin++) {
            for (int what = 0; what < 4; what++) {
                numbers.add(pin(pin, what));
            }
        }
        for (int sheet = 0; sheet < faults.size(); sheet++) {
            for (int what = 0; what < 6; what++) {
                numbers.add(sheet(sheet, what));
            }
            for (int place = 0; place < 30; place++) {
                numbers.add(faults(sheet, place / 6, place % 6));
                numbers.add(worth(sheet, place / 6, place % 6));
            }
        }
        long d = 1069;
        for (int x : numbers) {
            d = d * 31 + x;
        }
        return d;
    }
}
