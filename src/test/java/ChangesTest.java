import java.util.Map;
import java.util.Set;
import java.util.TreeMap;
import java.util.TreeSet;

/** "Nothing is promised beyond the answers and state changes described above": each call changes these alone. */
public final class ChangesTest {
    public static void main(String[] args) {
        machineAndPlate();
        sheets();
        Check.sentence("8, 10 to 17 are asked: they change nothing", ChangesTest::questions);
        Check.end();
    }

    private static void machineAndPlate() {
        Check.sentence("2 setFeed: the feed and the drift",
                () -> changes(x -> x.setFeed(25, 3), "count 1", "count 2"));
        Check.sentence("2 setFeed: the feed alone", () -> changes(x -> x.setFeed(25, -1), "count 1"));
        Check.sentence("2 setFeed: the drift alone", () -> changes(x -> x.setFeed(20, 4), "count 2"));
        Check.sentence("2 setFeed: as they are", () -> changes(x -> x.setFeed(20, -1)));
        Check.sentence("3 align: the error", () -> changes(x -> x.align(), "count 3"));
        Check.sentence("4 roll: its rows and its step",
                () -> changes(x -> x.roll(50, 7), "count 4", "count 5", "count 6"));
        Check.sentence("5 fit: this pin", () -> changes(x -> x.fit(2, 300), "pin 2 0", "pin 2 1", "pin 2 3"));
        Check.sentence("6 turn: this place", () -> changes(x -> x.turn(1, 1), "count 8"));
        Check.sentence("7 run: a sheet more, feed, error, roll, wear, worth", ChangesTest::aRun);
    }

    private static void sheets() {
        // Each second stamp has no watermark, so that the greatest block is of one stamp, whatever is torn off.
        Check.sentence("9 tear: this stamp, without any fault", () -> changes(x -> x.tear(0, 1, 5),
                "count 9", "sheet 0 0", "sheet 0 1", "sheet 0 2"));
        Check.sentence("9 tear: this stamp, with a fault", () -> changes(x -> x.tear(0, 0, 1),
                "count 9", "sheet 0 0", "sheet 0 2"));
    }

    private static void aRun() {
        // A feed of 20 would leave the error as it is; with this one it goes from 5 to 0, and no row is off.
        changes(x -> {
            x.setFeed(19, -1);
            return x.run();
        }, "count 0", "count 1", "count 3", "count 4", "count 6", "count 9", "pin 0 1", "pin 0 3", "pin 1 1", "pin 1 3",
                "pin 2 1", "pin 2 3", "pin 3 1", "pin 3 3", "pin 4 1", "pin 4 3", "pin 5 1", "pin 5 3", "pin 6 1",
                "pin 6 3");
    }

    private static void questions() {
        StampSheets x = Given.busy();
        Map<String, Object> before = told(x);
        Map<String, Object> beforeNext = wouldBe(x);
        for (int time = 0; time < 3; time++) {
            Check.due("what is told, again", told(x), before);
            Check.due("what would be, again", wouldBe(x), beforeNext);
        }
    }

    /** Runs the call and looks which of the answers about what was there before differ behind it. */
    private static void changes(Change call, String... due) {
        StampSheets x = Given.busy();
        Map<String, Object> before = told(x);
        call.on(x);
        Map<String, Object> behind = told(x);
        Set<String> changed = new TreeSet<>();
        for (String question : before.keySet()) {
            if (!before.get(question).equals(behind.get(question))) {
                changed.add(question);
            }
        }
        Check.due("what it changed", changed, new TreeSet<>(Set.of(due)));
    }

    private interface Change {
        Object on(StampSheets x);
    }

    /** Every answer of count() and pin(), and all about sheet 0. */
    private static Map<String, Object> told(StampSheets x) {
        Map<String, Object> told = new TreeMap<>();
        for (int what = 0; what < 10; what++) {
            told.put("count " + what, x.count(what));
        }
        for (int pin = 0; pin < 7; pin++) {
            for (int what = 0; what < 4; what++) {
                told.put("pin " + pin + " " + what, x.pin(pin, what));
            }
        }
        for (int what = 0; what < 6; what++) {
            told.put("sheet 0 " + what, x.sheet(0, what));
        }
        for (int stamp = 0; stamp < 30; stamp++) {
            told.put("faults " + stamp, x.faults(0, stamp / 6, stamp % 6));
        }
        return told;
    }

    private static Map<String, Object> wouldBe(StampSheets x) {
        Map<String, Object> wouldBe = new TreeMap<>();
        for (int sheets = 1; sheets <= 20; sheets++) {
            for (int what = 0; what < 4; what++) {
                wouldBe.put("foresee " + sheets + " " + what, x.foresee(sheets, what));
            }
            wouldBe.put("advise " + sheets, x.advise(sheets));
        }
        for (int mask = 0; mask < 32; mask++) {
            wouldBe.put("like " + mask, x.like(mask));
        }
        wouldBe.put("share", x.share());
        wouldBe.put("digest", x.digest());
        return wouldBe;
    }
}
