/** Promises 12 to 14: undo, keep, restore. */
public final class HistoryTest {
    private static final Checks checks = new Checks();

    private static void due(String call, long got, long want) {
        checks.due(call, got, want);
    }

    public static void main(String[] args) {
        undo();
        oldestIsDropped();
        noRecords();
        stateIsAll();
        keepAndRestore();
        snapshotStays();
        snapshotAndUndo();
        checks.end("HistoryTest");
    }

    private static void undo() {
        WindRoses desk = new WindRoses();
        due("12: empty", desk.undo(), -5);
        desk.log(0, 0, 0, 1, 1);
        desk.log(0, 0, 0, 1, 2);
        due("12: one is left", desk.undo(), 1);
        due("12: the latest", desk.rose(0, 0, 0), 1);
        due("12: none is left", desk.undo(), 0);
        due("12: at first", desk.rose(0, 0, 0), 0);
        due("12: empty", desk.undo(), -5);
        desk.calm(0, 0, 3);
        due("12: after undo", desk.count(9), 1);
    }

    private static void oldestIsDropped() {
        WindRoses desk = new WindRoses();
        for (int i = 1; i <= 11; i++) {
            desk.calm(0, 0, 1);
            due("27: four at most", desk.count(9), Math.min(i, 4));
        }
        for (int left = 3; left >= 0; left--) {
            due("12: left", desk.undo(), left);
            due("12: the latest first", desk.rose(0, 0, 2), 7 + left);
        }
        due("12: older ones are dropped", desk.undo(), -5);
        due("12: as it was", desk.rose(0, 0, 2), 7);
        desk.calm(0, 0, 10);
        desk.calm(0, 0, 10);
        due("12: recorded anew", desk.undo(), 1);
        due("12: recorded anew", desk.rose(0, 0, 2), 17);
    }

    private static void noRecords() {
        WindRoses desk = new WindRoses();
        desk.log(0, 0, 0, 1, 100);
        desk.calm(4, 0, 1);
        desk.strike(0, 0, 0, 1);
        desk.turn(0, 0, 1);
        desk.set(0, 12);
        desk.set(0, 30);
        desk.engrave(0, 0);
        desk.renew(0, 0);
        desk.type('x');
        desk.logAll();
        desk.clearText();
        desk.undo();
        desk.restore();
        desk.keep();
        due("12: none of these is recorded", desk.count(9), 0);
        desk.calm(0, 0, 1);
        desk.engrave(0, 0);
        desk.engrave(0, 0);
        desk.nextPlate();
        desk.plate(0, 0, 5);
        due("12: NONE is not recorded", desk.count(9), 2);
    }

    private static void stateIsAll() {
        WindRoses desk = new WindRoses();
        desk.log(0, 0, 0, 5, 1);
        desk.engrave(0, 0);
        desk.turn(0, 0, 1);
        desk.engrave(0, 0);
        due("13: keep", desk.keep(), 1);
        desk.renew(0, 0);
        desk.strike(0, 0, 1, 5);
        desk.calm(3, 3, 9);
        desk.set(0, 2);
        desk.set(1, 3);
        desk.set(2, 4);
        desk.engrave(3, 3);
        desk.type('x');
        due("14: restore", desk.restore(), 1);
        due("14: hours", desk.hours(0, 0, 1, 0), 1);
        due("14: calm ones", desk.count(1), 0);
        due("14: petals", desk.petal(0, 0, 1, 0), 100);
        due("14: circles", desk.plate(3, 3, 0), 0);
        due("14: scrapes", desk.plate(0, 0, 1), 1);
        due("14: engraved", desk.count(4), 2);
        due("14: renewed", desk.count(5), 0);
        due("14: setting 0", desk.count(6), 12);
        due("14: setting 1", desk.count(7), 30);
        due("14: setting 2", desk.count(8), 5);
        due("14: the text stays", desk.count(10), 1);
        due("14: the history stays", desk.count(9), 4);
        due("12: undo the restoring", desk.undo(), 3);
        due("12: hours", desk.rose(3, 3, 0), 9);
        due("12: circles", desk.plate(3, 3, 0), 100);
        due("12: engraved", desk.count(4), 3);
        due("12: renewed", desk.count(5), 1);
        due("12: setting 0", desk.count(6), 2);
        due("12: setting 1", desk.count(7), 3);
        due("12: setting 2", desk.count(8), 4);
    }

    private static void keepAndRestore() {
        WindRoses desk = new WindRoses();
        due("14: no snapshot", desk.restore(), -5);
        due("13: an empty one", desk.keep(), 0);
        due("13: no act", desk.count(9), 0);
        desk.log(1, 1, 1, 1, 5);
        desk.calm(2, 2, 6);
        due("14: restore", desk.restore(), 0);
        due("14: restore", desk.count(0), 0);
        due("14: an act", desk.count(9), 3);
        due("14: again, though all is so", desk.restore(), 0);
        due("14: an act too", desk.count(9), 4);
        due("12: undo", desk.undo(), 3);
        due("12: undo", desk.undo(), 2);
        due("12: as before restoring", desk.count(0), 11);
        due("13: keep in place", desk.keep(), 11);
        desk.calm(0, 0, 1);
        due("14: the new one", desk.restore(), 11);
    }

    private static void snapshotStays() {
        WindRoses desk = new WindRoses();
        desk.calm(0, 0, 5);
        desk.keep();
        for (int i = 0; i < 6; i++) {
            desk.calm(0, 0, 1);
            due("14: stays", desk.restore(), 5);
            due("14: stays", desk.rose(0, 0, 2), 5);
        }
    }

    private static void snapshotAndUndo() {
        WindRoses desk = new WindRoses();
        desk.calm(0, 0, 5);
        desk.keep();
        due("12: undo", desk.undo(), 0);
        due("14: undo leaves the snapshot", desk.restore(), 5);
        due("12: undo", desk.undo(), 0);
        due("12: before restoring", desk.count(0), 0);
    }
}
