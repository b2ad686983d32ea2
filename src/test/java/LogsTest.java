/** Promises 1 to 6: a new object, log, calm, strike, turn, set. */
public final class LogsTest {
    private static final Checks checks = new Checks();

    private static void due(String call, long got, long want) {
        checks.due(call, got, want);
    }

    public static void main(String[] args) {
        newObject();
        log();
        calm();
        fullLog();
        strike();
        turn();
        turnByEach();
        set();
        setOrder();
        classBounds();
        checks.end("LogsTest");
    }

    private static void newObject() {
        WindRoses desk = new WindRoses();
        int[] settings = {12, 30, 5};
        for (int what = 0; what <= 10; what++) {
            int want = what >= 6 && what <= 8 ? settings[what - 6] : 0;
            due("1: count(" + what + ")", desk.count(what), want);
        }
        for (int rose = 0; rose < 16; rose++) {
            newRose(rose / 4, rose % 4);
        }
        due("1: undo", desk.undo(), -5);
        due("1: restore", desk.restore(), -5);
        due("1: nextPlate", desk.nextPlate(), -5);
        due("1: clearText", desk.clearText(), 0);
        due("1: logAll", desk.logAll(), -100);
    }

    /** Each rose on an object of its own: nothing is promised beyond 512 calls of one. */
    private static void newRose(int port, int season) {
        WindRoses desk = new WindRoses();
        for (int what = 0; what <= 9; what++) {
            int want = what == 4 || what == 5 || what == 9 ? -5 : 0;
            due("1: rose(.., " + what + ")", desk.rose(port, season, what), want);
        }
        for (int what = 0; what <= 5; what++) {
            due("1: plate(.., " + what + ")", desk.plate(port, season, what), 0);
        }
        for (int part = 0; part < 48; part++) {
            due("1: petal", desk.petal(port, season, part / 3, part % 3), 0);
            due("1: hours", desk.hours(port, season, part / 3, part % 3), 0);
        }
    }

    private static void log() {
        WindRoses desk = new WindRoses();
        due("2: log lowest", desk.log(0, 0, 0, 1, 1), 1);
        due("2: log highest", desk.log(3, 3, 15, 99, 99), 99);
        due("2: log again", desk.log(3, 3, 15, 99, 1), 100);
        due("2: calm ones too", desk.calm(3, 3, 5), 105);
        due("2: with calm ones", desk.log(3, 3, 0, 1, 2), 107);
        due("2: hours kept", desk.hours(3, 3, 15, 2), 100);
        due("2: other log", desk.rose(0, 0, 0), 1);
        due("2: an act", desk.count(9), 4);
        int[] outside = {-1, 4, Integer.MIN_VALUE, Integer.MAX_VALUE};
        for (int wrong : outside) {
            due("2: port " + wrong, desk.log(wrong, 0, 0, 1, 1), -1);
            due("2: season " + wrong, desk.log(0, wrong, 0, 1, 1), -1);
        }
        due("2: direction 16", desk.log(0, 0, 16, 1, 1), -1);
        due("2: direction -1", desk.log(0, 0, -1, 1, 1), -1);
        due("2: direction before speed", desk.log(0, 0, 16, 0, 0), -1);
        int[] bad = {0, 100, -1, Integer.MIN_VALUE, Integer.MAX_VALUE};
        for (int wrong : bad) {
            due("2: speed " + wrong, desk.log(0, 0, 0, wrong, 1), -2);
            due("2: hours " + wrong, desk.log(0, 0, 0, 1, wrong), -2);
        }
        due("2: nothing is changed by errors", desk.count(0), 108);
    }

    private static void calm() {
        WindRoses desk = new WindRoses();
        due("3: calm 1", desk.calm(1, 2, 1), 1);
        due("3: calm 99", desk.calm(1, 2, 99), 100);
        desk.log(1, 2, 4, 4, 4);
        due("3: windy ones too", desk.calm(1, 2, 1), 105);
        due("3: calm hours", desk.rose(1, 2, 2), 101);
        due("3: an act", desk.count(9), 4);
        due("3: port", desk.calm(4, 0, 0), -1);
        due("3: port", desk.calm(-1, 0, 1), -1);
        due("3: season", desk.calm(0, 4, 1), -1);
        due("3: season", desk.calm(0, -1, 100), -1);
        due("3: hours 0", desk.calm(0, 0, 0), -2);
        due("3: hours 100", desk.calm(0, 0, 100), -2);
        due("3: hours -1", desk.calm(0, 0, -1), -2);
        due("3: nothing is changed by errors", desk.count(0), 105);
    }

    private static void fullLog() {
        WindRoses desk = new WindRoses();
        for (int i = 0; i < 100; i++) {
            desk.log(2, 1, i % 16, 1 + i % 99, 99);
        }
        due("2: 9900 and 98", desk.calm(2, 1, 98), 9998);
        due("2: 2 are too many", desk.log(2, 1, 0, 1, 2), -3);
        due("3: 2 are too many", desk.calm(2, 1, 2), -3);
        due("2: BAD_VALUE before FULL", desk.log(2, 1, 0, 1, 100), -2);
        due("3: BAD_VALUE before FULL", desk.calm(2, 1, 100), -2);
        due("2: the last one", desk.log(2, 1, 0, 1, 1), 9999);
        due("2: full", desk.log(2, 1, 0, 1, 1), -3);
        due("3: full", desk.calm(2, 1, 1), -3);
        due("2: another log is not full", desk.log(2, 2, 0, 1, 99), 99);
        due("3: another log is not full", desk.calm(1, 1, 99), 99);
        due("2: nothing is changed by FULL", desk.rose(2, 1, 0), 9999);
        due("12: one record a success", desk.undo(), 3);
        due("12: undo calm", desk.rose(1, 1, 0), 0);
    }

    private static void strike() {
        WindRoses desk = new WindRoses();
        desk.log(0, 1, 3, 7, 50);
        desk.log(0, 1, 3, 7, 60);
        desk.log(0, 1, 3, 8, 1);
        desk.log(0, 1, 4, 7, 2);
        desk.calm(0, 1, 3);
        due("4: strike", desk.strike(0, 1, 3, 7), 110);
        due("4: others stay", desk.rose(0, 1, 1), 3);
        due("4: calm ones stay", desk.rose(0, 1, 2), 3);
        due("4: none any more", desk.strike(0, 1, 3, 7), -5);
        due("4: none", desk.strike(0, 2, 3, 7), -5);
        due("4: undone", desk.undo(), 3);
        due("4: undone", desk.hours(0, 1, 3, 0), 111);
        due("4: undone alone", desk.rose(0, 1, 2), 3);
        due("4: NONE is no act", desk.undo(), 2);
        due("4: the calm ones before", desk.rose(0, 1, 2), 0);
        due("4: port", desk.strike(4, 1, 3, 7), -1);
        due("4: port", desk.strike(-1, 1, 3, 7), -1);
        due("4: season", desk.strike(0, 4, 3, 7), -1);
        due("4: season", desk.strike(0, -1, 3, 7), -1);
        due("4: direction", desk.strike(0, 1, 16, 0), -1);
        due("4: direction", desk.strike(0, 1, -1, 7), -1);
        due("4: speed 0", desk.strike(0, 1, 3, 0), -2);
        due("4: speed 100", desk.strike(0, 1, 3, 100), -2);
        due("4: edges", desk.log(3, 3, 15, 99, 1), 1);
        due("4: edges", desk.strike(3, 3, 15, 99), 1);
    }

    private static void turn() {
        WindRoses desk = new WindRoses();
        desk.calm(1, 1, 4);
        due("5: no windy hours", desk.turn(1, 1, 1), -5);
        desk.log(1, 1, 0, 5, 1);
        desk.log(1, 1, 15, 40, 2);
        desk.log(1, 1, 8, 20, 3);
        desk.log(1, 2, 0, 5, 9);
        due("5: turn by 1", desk.turn(1, 1, 1), 6);
        due("5: 0 to 1", desk.hours(1, 1, 1, 0), 1);
        due("5: 15 to 0", desk.hours(1, 1, 0, 2), 2);
        due("5: 8 to 9", desk.hours(1, 1, 9, 1), 3);
        due("5: 8 is left", desk.hours(1, 1, 8, 3), 0);
        due("5: other logs stay", desk.hours(1, 2, 0, 0), 9);
        due("5: calm ones stay", desk.rose(1, 1, 2), 4);
        due("5: speeds stay", desk.strike(1, 1, 0, 40), 2);
        due("5: undo strike", desk.undo(), 3);
        due("5: undo turn", desk.undo(), 2);
        due("5: as before", desk.hours(1, 1, 15, 2), 2);
        due("5: undone alone", desk.hours(1, 2, 0, 0), 9);
        due("5: port", desk.turn(4, 1, 0), -1);
        due("5: port", desk.turn(-1, 1, 1), -1);
        due("5: season", desk.turn(1, 4, 1), -1);
        due("5: season", desk.turn(1, -1, 1), -1);
        due("5: by 0", desk.turn(1, 1, 0), -2);
        due("5: by 16", desk.turn(1, 1, 16), -2);
        due("5: BAD_VALUE before NONE", desk.turn(0, 0, -1), -2);
    }

    private static void turnByEach() {
        for (int by = 1; by <= 15; by++) {
            WindRoses desk = new WindRoses();
            for (int direction = 0; direction < 16; direction++) {
                desk.log(2, 3, direction, 1 + direction * 6, direction + 1);
            }
            due("5: by " + by, desk.turn(2, 3, by), 136);
            for (int direction = 0; direction < 16; direction++) {
                due("5: " + direction, desk.hours(2, 3, (direction + by) % 16, 3), direction + 1);
            }
        }
    }

    private static void set() {
        WindRoses desk = new WindRoses();
        due("6: as it is", desk.set(0, 12), -5);
        due("6: as it is", desk.set(1, 30), -5);
        due("6: as it is", desk.set(2, 5), -5);
        due("6: no record", desk.count(9), 0);
        due("6: setting 0", desk.set(0, 1), 12);
        due("6: setting 1", desk.set(1, 2), 30);
        due("6: setting 1 is 2", desk.count(7), 2);
        due("6: setting 2", desk.set(2, 0), 5);
        due("6: setting 2", desk.set(2, 9), 0);
        due("6: setting 2 is 9", desk.count(8), 9);
        due("6: setting 1", desk.set(1, 99), 2);
        due("6: setting 0", desk.set(0, 98), 1);
        due("6: setting 0 is 98", desk.count(6), 98);
        due("6: an act", desk.undo(), 3);
        due("6: undone", desk.count(6), 1);
    }

    private static void setOrder() {
        WindRoses desk = new WindRoses();
        due("6: which -1", desk.set(-1, 12), -1);
        due("6: which 3", desk.set(3, 100), -1);
        due("6: 0 to 0", desk.set(0, 0), -2);
        due("6: 0 to 100", desk.set(0, 100), -2);
        due("6: 1 to 0", desk.set(1, 0), -2);
        due("6: 1 to 100", desk.set(1, 100), -2);
        due("6: 2 to -1", desk.set(2, -1), -2);
        due("6: 2 to 10", desk.set(2, 10), -2);
        due("6: 0 as great as 1", desk.set(0, 30), -4);
        due("6: 0 greater than 1", desk.set(0, 99), -4);
        due("6: 0 just below 1", desk.set(0, 29), 12);
        due("6: 1 as small as 0", desk.set(1, 29), -4);
        due("6: 1 to 1", desk.set(1, 1), -4);
        due("6: setting 2 is not compared", desk.set(2, 1), 5);
        due("6: nothing is changed by errors", desk.count(7), 30);
    }

    private static void classBounds() {
        WindRoses desk = new WindRoses();
        int[] speeds = {1, 11, 12, 29, 30, 99};
        for (int speed : speeds) {
            desk.log(0, 0, 0, speed, 1);
        }
        for (int kind = 0; kind < 3; kind++) {
            due("16: two of class " + kind, desk.hours(0, 0, 0, kind), 2);
            due("15: two of class " + kind, desk.rose(0, 0, 6 + kind), 2);
        }
        desk.set(0, 1);
        due("6: none is below 1", desk.hours(0, 0, 0, 0), 0);
        due("6: class 1 from 1", desk.hours(0, 0, 0, 1), 4);
        desk.set(1, 99);
        due("6: class 1 below 99", desk.hours(0, 0, 0, 1), 5);
        due("6: class 2 is 99", desk.hours(0, 0, 0, 2), 1);
        desk.set(0, 12);
        desk.set(1, 13);
        due("6: class 1 is 12", desk.hours(0, 0, 0, 1), 1);
        due("6: class 2 from 13", desk.hours(0, 0, 0, 2), 3);
    }
}
