/** The edges of the terms PORTS, LOGS and of the promises 1 to 6: a new object, log, calm, strike, turn, set. */
final class LogBoundaries {
    private final Sentences s;

    private LogBoundaries(Sentences sentences) {
        s = sentences;
    }

    static void lookAt(Sentences sentences) {
        LogBoundaries edges = new LogBoundaries(sentences);
        edges.terms();
        edges.promise1();
        edges.promise2();
        edges.promise3();
        edges.promise4();
        edges.promise5();
        edges.promise6();
    }

    // ---- PORTS, LOGS

    private void terms() {
        portsAndSeasons();
        oneOfEachRose();
        directions();
        compass();
        cellsOfALog();
        mostHours();
        classBounds();
        rangeOfBounds();
        boundsAtFirst();
        boundsInOrder();
    }

    private void portsAndSeasons() {
        s.of("PORTS, LOGS", "There are 4 ports, 0 to 3, and 4 seasons, 0 to 3");
        s.range("port", port -> new WindRoses().log(port, 1, 1, 1, 7), 0, 3, 7, -1);
        s.range("season", season -> new WindRoses().log(1, season, 1, 1, 7), 0, 3, 7, -1);
    }

    private void oneOfEachRose() {
        s.of("PORTS, LOGS", "each port has a log and a plate for each season (a rose).");
        WindRoses desk = new WindRoses();
        for (int rose = 0; rose < 16; rose++) {
            s.due("hours of a log of its own", desk.log(rose / 4, rose % 4, rose, 1 + rose, 1 + rose), 1 + rose);
        }
        for (int rose = 0; rose < 16; rose++) {
            s.due("hours of the log " + rose, desk.rose(rose / 4, rose % 4, 0), 1 + rose);
            s.due("direction of the log " + rose, desk.rose(rose / 4, rose % 4, 9), rose);
        }
        for (int engraved = 0; engraved < 16; engraved++) {
            desk.engrave(engraved / 4, engraved % 4);
            for (int rose = 0; rose < 16; rose++) {
                s.due("petals of the plate " + rose, desk.plate(rose / 4, rose % 4, 2), rose <= engraved ? 1 : 0);
            }
        }
    }

    private void directions() {
        s.of("PORTS, LOGS", "There are 16 directions, 0 to 15");
        s.range("direction", direction -> new WindRoses().log(1, 1, direction, 1, 7), 0, 15, 7, -1);
        WindRoses desk = new WindRoses();
        for (int direction = 0; direction < 16; direction++) {
            desk.log(1, 1, direction, 50, 1 + direction);
        }
        for (int direction = 0; direction < 16; direction++) {
            s.due("hours of direction " + direction, desk.hours(1, 1, direction, 3), 1 + direction);
        }
    }

    private void compass() {
        s.of("PORTS, LOGS", "(0 north, 4 east, 8 south, 12 west)");
        for (int quarter = 0; quarter < 4; quarter++) {
            WindRoses desk = Desks.withWind(0, 0, quarter * 4, 50, 5);
            for (int looked = 0; looked < 4; looked++) {
                s.due("quarter " + looked, desk.quarter(0, 0, looked), looked == quarter ? 5 : 0);
            }
            int opposite = (quarter * 4 + 8) % 16;
            desk.log(0, 0, opposite, 50, 2);
            s.due("against " + opposite, desk.excess(0, 0, quarter * 4), 3);
        }
    }

    private void cellsOfALog() {
        s.of("PORTS, LOGS", "A log has hours: for each direction and speed (1 to 99) how many, and calm hours.");
        s.range("speed", speed -> new WindRoses().log(1, 1, 1, speed, 7), 1, 99, 7, -2);
        for (int direction = 0; direction < 16; direction++) {
            WindRoses desk = new WindRoses();
            desk.calm(2, 2, 33);
            for (int speed = 1; speed <= 99; speed++) {
                desk.log(2, 2, direction, speed, speed);
            }
            for (int speed = 1; speed <= 99; speed++) {
                s.due("at " + direction + "@" + speed, desk.strike(2, 2, direction, speed), speed);
            }
            s.due("calm hours are apart", desk.rose(2, 2, 2), 33);
            s.due("all the others are struck", desk.rose(2, 2, 0), 33);
        }
        s.due("the last speed is not of the next direction",
            Desks.withWind(0, 0, 3, 99, 1).strike(0, 0, 4, 1), -5);
        s.due("the first speed is not of the direction before",
            Desks.withWind(0, 0, 4, 1, 1).strike(0, 0, 3, 99), -5);
    }

    private void mostHours() {
        s.of("PORTS, LOGS", "It has at most 9999 hours.");
        WindRoses windy = Desks.withWind(0, 0, 0, 1, 9998);
        s.due("a windy log has room for one", windy.log(0, 0, 15, 99, 1), 9999);
        s.due("a windy log is full", windy.log(0, 0, 15, 99, 1), -3);
        WindRoses calm = Desks.withCalm(3, 3, 9998);
        s.due("a calm log has room for one", calm.calm(3, 3, 1), 9999);
        s.due("a calm log is full", calm.calm(3, 3, 1), -3);
        WindRoses both = Desks.withCalm(1, 2, 5000);
        Desks.log(both, 1, 2, 7, 7, 4999);
        s.due("both together", both.rose(1, 2, 0), 9999);
        s.due("both together are full", both.calm(1, 2, 1), -3);
        both.strike(1, 2, 7, 7);
        s.due("struck hours leave room", both.calm(1, 2, 99), 5099);
    }

    private void classBounds() {
        s.of("PORTS, LOGS", "The class of a speed is 0 below the setting 0, 1 below the setting 1, otherwise 2");
        int[][] bounds = {{12, 30}, {1, 2}, {1, 99}, {98, 99}, {40, 41}};
        for (int[] bound : bounds) {
            for (int speed = 1; speed <= 99; speed++) {
                WindRoses desk = Desks.withWind(0, 0, 6, speed, 5);
                desk.set(0, 1);
                desk.set(1, bound[1]);
                desk.set(0, bound[0]);
                int kind = speed < bound[0] ? 0 : speed < bound[1] ? 1 : 2;
                String at = speed + " by " + bound[0] + " and " + bound[1];
                for (int looked = 0; looked < 3; looked++) {
                    s.due("hours, " + at, desk.hours(0, 0, 6, looked), looked == kind ? 5 : 0);
                    s.due("rose, " + at, desk.rose(0, 0, 6 + looked), looked == kind ? 5 : 0);
                    s.due("share, " + at, desk.share(0, 0, 6, looked), looked == kind ? 100 : 0);
                    s.due("seasonOf, " + at, desk.seasonOf(0, looked), looked == kind ? 0 : -5);
                }
            }
        }
    }

    private void rangeOfBounds() {
        s.of("PORTS, LOGS", "(both 1 to 99;");
        WindRoses desk = new WindRoses();
        s.due("setting 0 to 0", desk.set(0, 0), -2);
        s.due("setting 0 to 1", desk.set(0, 1), 12);
        s.due("setting 1 to 100", desk.set(1, 100), -2);
        s.due("setting 1 to 99", desk.set(1, 99), 30);
        s.due("setting 0 to 100", desk.set(0, 100), -2);
        s.due("setting 0 to 98", desk.set(0, 98), 1);
        s.due("setting 1 to 0", desk.set(1, 0), -2);
        s.due("setting 0 is 98", desk.count(6), 98);
        s.due("setting 1 is 99", desk.count(7), 99);
    }

    private void boundsAtFirst() {
        s.of("PORTS, LOGS", "12 and 30 at first;");
        s.due("setting 0", new WindRoses().count(6), 12);
        s.due("setting 1", new WindRoses().count(7), 30);
        WindRoses desk = new WindRoses();
        int[] speeds = {11, 12, 29, 30};
        for (int speed : speeds) {
            desk.log(0, 0, 0, speed, speed);
        }
        s.due("11 alone is of class 0", desk.rose(0, 0, 6), 11);
        s.due("12 and 29 are of class 1", desk.rose(0, 0, 7), 41);
        s.due("30 alone is of class 2", desk.rose(0, 0, 8), 30);
    }

    private void boundsInOrder() {
        s.of("PORTS, LOGS", "the setting 0 is always less than the setting 1).");
        WindRoses desk = new WindRoses();
        s.due("setting 0 as great", desk.set(0, 30), -4);
        s.due("setting 0 greater by one", desk.set(0, 31), -4);
        s.due("setting 1 as small", desk.set(1, 12), -4);
        s.due("setting 1 smaller by one", desk.set(1, 11), -4);
        s.due("setting 1 greater by one", desk.set(1, 13), 30);
        s.due("setting 0 is less by one", desk.count(6), 12);
        s.due("setting 1 to the setting 0", desk.set(1, 12), -4);
        s.due("setting 0 to the setting 1", desk.set(0, 13), -4);
        s.due("setting 0 to 99", desk.set(0, 99), -4);
        s.due("setting 1 to 1", desk.set(1, 1), -4);
        s.due("setting 0 stays", desk.count(6), 12);
        s.due("setting 1 stays", desk.count(7), 13);
    }

    // ---- Promise 1

    private void promise1() {
        s.of("Promise 1", "Creates a desk with empty logs and new plates.");
        newLogs();
        newPlates();
        twoObjects();
    }

    private void newLogs() {
        WindRoses desk = new WindRoses();
        for (int port = 0; port < 4; port++) {
            for (int season = 0; season < 4; season++) {
                s.due("hours", desk.rose(port, season, 0), 0);
                s.due("calm hours", desk.rose(port, season, 2), 0);
                for (int direction = 0; direction < 16; direction++) {
                    s.due("hours of a direction", desk.hours(port, season, direction, 3), 0);
                }
                s.due("nothing to strike", desk.strike(port, season, 0, 1), -5);
                s.due("nothing to turn", desk.turn(port, season, 1), -5);
                s.due("nothing to engrave", desk.engrave(port, season), -4);
            }
        }
        s.due("all hours", desk.count(0), 0);
    }

    private void newPlates() {
        for (int rose = 0; rose < 16; rose++) {
            WindRoses desk = new WindRoses();
            for (int part = 0; part < 48; part++) {
                s.due("petal", desk.petal(rose / 4, rose % 4, part / 3, part % 3), 0);
            }
            for (int what = 0; what <= 5; what++) {
                s.due("plate(.., " + what + ")", desk.plate(rose / 4, rose % 4, what), 0);
            }
            s.due("no plate in its place", desk.renew(rose / 4, rose % 4), -5);
            s.due("no plates engraved", desk.count(4), 0);
            s.due("no plates renewed", desk.count(5), 0);
        }
    }

    private void twoObjects() {
        WindRoses one = Desks.withScrapes(1);
        one.keep();
        one.type('x');
        one.set(0, 5);
        WindRoses other = new WindRoses();
        int[] want = {0, 0, 0, 0, 0, 0, 12, 30, 5, 0, 0};
        for (int what = 0; what < want.length; what++) {
            s.due("count(" + what + ") beside another object", other.count(what), want[what]);
        }
        s.due("its snapshot", other.restore(), -5);
        s.due("the other one's hours", one.count(0), 1);
    }

    // ---- Promise 2

    private void promise2() {
        s.of("Promise 2", "Logs windy hours.");
        WindRoses desk = new WindRoses();
        desk.log(3, 0, 15, 99, 99);
        desk.log(3, 0, 15, 99, 1);
        s.due("windy ones", desk.rose(3, 0, 1), 100);
        s.due("calm ones", desk.rose(3, 0, 2), 0);
        s.due("in their place", desk.strike(3, 0, 15, 99), 100);

        s.of("Promise 2", "This is an act.");
        HistoryBoundaries.lookAtAct(s, new WindRoses(), any -> any.log(0, 0, 0, 1, 1));

        s.of("Promise 2", "`port`: 0 to 3");
        s.range("port", port -> new WindRoses().log(port, 0, 0, 1, 4), 0, 3, 4, -1);
        s.of("Promise 2", "`season`: 0 to 3");
        s.range("season", season -> new WindRoses().log(0, season, 0, 1, 4), 0, 3, 4, -1);
        s.of("Promise 2", "`direction`: 0 to 15");
        s.range("direction", direction -> new WindRoses().log(0, 0, direction, 1, 4), 0, 15, 4, -1);
        s.of("Promise 2", "`speed`: 1 to 99");
        s.range("speed", speed -> new WindRoses().log(0, 0, 0, speed, 4), 1, 99, 4, -2);
        s.of("Promise 2", "`hours`: 1 to 99");
        s.range("hours", hours -> new WindRoses().log(0, 0, 0, 1, hours), 1, 99, hours -> hours, -2);
        promise2Answers();
    }

    private void promise2Answers() {
        s.of("Promise 2", "Returns the hours of the log then, calm ones too");
        WindRoses desk = Desks.withCalm(2, 2, 20);
        s.due("with calm ones", desk.log(2, 2, 3, 3, 1), 21);
        s.due("of the same cell", desk.log(2, 2, 3, 3, 2), 23);
        s.due("of another one", desk.log(2, 2, 4, 3, 3), 26);
        s.due("not of another log", desk.log(2, 1, 4, 3, 4), 4);

        s.of("Promise 2", "UNKNOWN (port, season or direction)");
        s.due("port", new WindRoses().log(4, 0, 0, 1, 1), -1);
        s.due("season", new WindRoses().log(0, 4, 0, 1, 1), -1);
        s.due("direction", new WindRoses().log(0, 0, 16, 1, 1), -1);
        s.due("ahead of BAD_VALUE", new WindRoses().log(0, 0, 16, 0, 0), -1);
        s.due("ahead of FULL", Desks.withCalm(0, 0, 9999).log(0, 0, 16, 1, 1), -1);

        s.of("Promise 2", "BAD_VALUE");
        s.due("speed", new WindRoses().log(0, 0, 0, 0, 1), -2);
        s.due("hours", new WindRoses().log(0, 0, 0, 1, 100), -2);
        s.due("speed ahead of FULL", Desks.withCalm(0, 0, 9999).log(0, 0, 0, 100, 1), -2);
        s.due("hours ahead of FULL", Desks.withCalm(0, 0, 9999).log(0, 0, 0, 1, 100), -2);

        s.of("Promise 2", "FULL if it would have more than 9999.");
        s.due("99 beside 9900", Desks.withCalm(1, 3, 9900).log(1, 3, 0, 1, 99), 9999);
        s.due("99 beside 9901", Desks.withCalm(1, 3, 9901).log(1, 3, 0, 1, 99), -3);
        s.due("98 beside 9901", Desks.withCalm(1, 3, 9901).log(1, 3, 0, 1, 98), 9999);
        s.due("99 beside 9901 windy ones", Desks.withWind(3, 1, 0, 1, 9901).log(3, 1, 5, 5, 99), -3);
        s.due("98 beside 9901 windy ones", Desks.withWind(3, 1, 0, 1, 9901).log(3, 1, 5, 5, 98), 9999);
        s.due("1 beside 9999", Desks.withWind(3, 1, 0, 1, 9999).log(3, 1, 0, 1, 1), -3);
        s.due("another season", Desks.withWind(3, 1, 0, 1, 9999).log(3, 2, 0, 1, 99), 99);
        s.due("another port", Desks.withWind(3, 1, 0, 1, 9999).log(2, 1, 0, 1, 99), 99);
    }

    // ---- Promise 3

    private void promise3() {
        s.of("Promise 3", "Logs calm hours.");
        WindRoses desk = new WindRoses();
        desk.calm(0, 3, 99);
        desk.calm(0, 3, 1);
        s.due("calm ones", desk.rose(0, 3, 2), 100);
        s.due("windy ones", desk.rose(0, 3, 1), 0);

        s.of("Promise 3", "This is an act.");
        HistoryBoundaries.lookAtAct(s, new WindRoses(), any -> any.calm(0, 0, 1));

        s.of("Promise 3", "`port`: 0 to 3");
        s.range("port", port -> new WindRoses().calm(port, 0, 4), 0, 3, 4, -1);
        s.of("Promise 3", "`season`: 0 to 3");
        s.range("season", season -> new WindRoses().calm(0, season, 4), 0, 3, 4, -1);
        s.of("Promise 3", "`hours`: 1 to 99");
        s.range("hours", hours -> new WindRoses().calm(0, 0, hours), 1, 99, hours -> hours, -2);

        s.of("Promise 3", "Returns as for log()");
        WindRoses both = Desks.withWind(2, 2, 3, 3, 20);
        s.due("with windy ones", both.calm(2, 2, 1), 21);
        s.due("with calm ones", both.calm(2, 2, 2), 23);
        s.due("not of another log", both.calm(1, 2, 4), 4);

        s.of("Promise 3", "UNKNOWN (port or season)");
        s.due("port", new WindRoses().calm(-1, 0, 1), -1);
        s.due("season", new WindRoses().calm(0, -1, 1), -1);
        s.due("ahead of BAD_VALUE", new WindRoses().calm(4, 0, 0), -1);
        s.due("ahead of BAD_VALUE", new WindRoses().calm(0, 4, 100), -1);

        s.of("Promise 3", "BAD_VALUE");
        s.due("hours", new WindRoses().calm(0, 0, 0), -2);
        s.due("ahead of FULL", Desks.withCalm(0, 0, 9999).calm(0, 0, 100), -2);

        s.of("Promise 3", "FULL likewise.");
        s.due("99 beside 9900", Desks.withCalm(1, 3, 9900).calm(1, 3, 99), 9999);
        s.due("99 beside 9901", Desks.withCalm(1, 3, 9901).calm(1, 3, 99), -3);
        s.due("98 beside 9901", Desks.withCalm(1, 3, 9901).calm(1, 3, 98), 9999);
        s.due("99 beside 9901 windy ones", Desks.withWind(3, 1, 0, 1, 9901).calm(3, 1, 99), -3);
        s.due("98 beside 9901 windy ones", Desks.withWind(3, 1, 0, 1, 9901).calm(3, 1, 98), 9999);
        s.due("1 beside 9999", Desks.withWind(3, 1, 0, 1, 9999).calm(3, 1, 1), -3);
        s.due("another season", Desks.withWind(3, 1, 0, 1, 9999).calm(3, 0, 99), 99);
        s.due("another port", Desks.withWind(3, 1, 0, 1, 9999).calm(0, 1, 99), 99);
    }

    // ---- Promise 4

    private void promise4() {
        s.of("Promise 4", "Strikes all hours of a direction and speed.");
        WindRoses desk = Desks.withCalm(1, 1, 7);
        int[][] around = {{7, 50}, {7, 49}, {7, 51}, {6, 50}, {8, 50}};
        for (int[] cell : around) {
            Desks.log(desk, 1, 1, cell[0], cell[1], 200);
        }
        desk.log(1, 2, 7, 50, 3);
        desk.strike(1, 1, 7, 50);
        s.due("none are left", desk.strike(1, 1, 7, 50), -5);
        s.due("all others are", desk.rose(1, 1, 1), 800);
        s.due("calm ones too", desk.rose(1, 1, 2), 7);
        s.due("another log's too", desk.strike(1, 2, 7, 50), 3);

        s.of("Promise 4", "This is an act.");
        HistoryBoundaries.lookAtAct(s, Desks.withWind(0, 0, 2, 2, 2), any -> any.strike(0, 0, 2, 2));

        s.of("Promise 4", "`port`: 0 to 3");
        s.range("port", port -> struckAt(port, 2, 3, 4), 0, 3, 5, -1);
        s.of("Promise 4", "`season`: 0 to 3");
        s.range("season", season -> struckAt(2, season, 3, 4), 0, 3, 5, -1);
        s.of("Promise 4", "`direction`: 0 to 15");
        s.range("direction", direction -> struckAt(2, 1, direction, 4), 0, 15, 5, -1);
        s.of("Promise 4", "`speed`: 1 to 99");
        s.range("speed", speed -> struckAt(2, 1, 3, speed), 1, 99, 5, -2);

        s.of("Promise 4", "Returns how many they were");
        s.due("one", Desks.withWind(0, 0, 0, 1, 1).strike(0, 0, 0, 1), 1);
        s.due("all of a full log", Desks.withWind(3, 3, 15, 99, 9999).strike(3, 3, 15, 99), 9999);
        promise4Errors();
    }

    private static int struckAt(int port, int season, int direction, int speed) {
        return Desks.withWind(port, season, direction, speed, 5).strike(port, season, direction, speed);
    }

    private void promise4Errors() {
        s.of("Promise 4", "UNKNOWN (port, season or direction)");
        s.due("port", new WindRoses().strike(4, 0, 0, 1), -1);
        s.due("season", new WindRoses().strike(0, 4, 0, 1), -1);
        s.due("direction", new WindRoses().strike(0, 0, 16, 1), -1);
        s.due("ahead of BAD_VALUE", new WindRoses().strike(0, 0, -1, 0), -1);

        s.of("Promise 4", "BAD_VALUE");
        s.due("speed", new WindRoses().strike(0, 0, 0, 0), -2);
        s.due("speed", Desks.withWind(0, 0, 0, 99, 1).strike(0, 0, 0, 100), -2);

        s.of("Promise 4", "NONE if there were none.");
        s.due("an empty log", new WindRoses().strike(0, 0, 0, 1), -5);
        s.due("calm ones alone", Desks.withCalm(0, 0, 5).strike(0, 0, 0, 1), -5);
        s.due("the speed below", Desks.withWind(0, 0, 5, 40, 1).strike(0, 0, 5, 39), -5);
        s.due("the speed above", Desks.withWind(0, 0, 5, 40, 1).strike(0, 0, 5, 41), -5);
        s.due("the direction below", Desks.withWind(0, 0, 5, 40, 1).strike(0, 0, 4, 40), -5);
        s.due("the direction above", Desks.withWind(0, 0, 5, 40, 1).strike(0, 0, 6, 40), -5);
        s.due("another season", Desks.withWind(0, 0, 5, 40, 1).strike(0, 1, 5, 40), -5);
        s.due("another port", Desks.withWind(0, 0, 5, 40, 1).strike(1, 0, 5, 40), -5);
    }

    // ---- Promise 5

    private void promise5() {
        s.of("Promise 5", "Turns a log: each direction becomes the one that is so many greater, modulo 16");
        for (int by = 1; by <= 15; by++) {
            WindRoses desk = Desks.withCalm(3, 2, 9);
            desk.log(3, 1, 4, 4, 4);
            for (int direction = 0; direction < 16; direction++) {
                desk.log(3, 2, direction, 99 - direction, 1 + direction);
            }
            desk.turn(3, 2, by);
            s.due("calm ones stay", desk.rose(3, 2, 2), 9);
            s.due("another log stays", desk.hours(3, 1, 4, 0), 4);
            for (int direction = 0; direction < 16; direction++) {
                int turned = direction + by < 16 ? direction + by : direction + by - 16;
                s.due(direction + " by " + by, desk.strike(3, 2, turned, 99 - direction), 1 + direction);
            }
        }

        WindRoses corners = new WindRoses();
        int[][] cells = {{0, 1}, {0, 99}, {15, 1}, {15, 99}};
        for (int[] cell : cells) {
            corners.log(3, 3, cell[0], cell[1], cell[0] + cell[1] / 2 + 1);
        }
        corners.turn(3, 3, 2);
        for (int[] cell : cells) {
            s.due("the first and the last", corners.strike(3, 3, (cell[0] + 2) % 16, cell[1]), cell[0] + cell[1] / 2 + 1);
        }
        s.due("nothing else", corners.rose(3, 3, 0), 0);

        s.of("Promise 5", "(the vane was set wrong).");
        s.due("15 by 1 is 0", turned(15, 1), 0);
        s.due("1 by 15 is 0", turned(1, 15), 0);
        s.due("0 by 15 is 15", turned(0, 15), 15);
        s.due("15 by 15 is 14", turned(15, 15), 14);
        s.due("0 by 1 is 1", turned(0, 1), 1);

        s.of("Promise 5", "This is an act.");
        HistoryBoundaries.lookAtAct(s, Desks.withWind(0, 0, 2, 2, 2), any -> any.turn(0, 0, 1));

        s.of("Promise 5", "`port`: 0 to 3");
        s.range("port", port -> Desks.withWind(port, 1, 0, 1, 6).turn(port, 1, 1), 0, 3, 6, -1);
        s.of("Promise 5", "`season`: 0 to 3");
        s.range("season", season -> Desks.withWind(1, season, 0, 1, 6).turn(1, season, 1), 0, 3, 6, -1);
        s.of("Promise 5", "`by`: 1 to 15");
        s.range("by", by -> Desks.withWind(1, 1, 0, 1, 6).turn(1, 1, by), 1, 15, 6, -2);
        s.due("16, which is all around", Desks.withWind(1, 1, 0, 1, 6).turn(1, 1, 16), -2);
        promise5Answers();
    }

    private static int turned(int direction, int by) {
        WindRoses desk = Desks.withWind(0, 0, direction, 20, 1);
        desk.turn(0, 0, by);
        return desk.rose(0, 0, 9);
    }

    private void promise5Answers() {
        s.of("Promise 5", "Returns its windy hours");
        WindRoses desk = Desks.withWind(0, 2, 5, 5, 5);
        desk.log(0, 2, 6, 99, 6);
        desk.calm(0, 2, 30);
        s.due("without calm ones", desk.turn(0, 2, 8), 11);
        s.due("of a full log", Desks.withWind(0, 0, 0, 1, 9999).turn(0, 0, 1), 9999);

        s.of("Promise 5", "UNKNOWN (port or season)");
        s.due("port", new WindRoses().turn(4, 0, 1), -1);
        s.due("season", new WindRoses().turn(0, 4, 1), -1);
        s.due("ahead of BAD_VALUE", new WindRoses().turn(-1, 0, 0), -1);
        s.due("ahead of BAD_VALUE", new WindRoses().turn(0, -1, 16), -1);

        s.of("Promise 5", "BAD_VALUE");
        s.due("0", Desks.withWind(0, 0, 0, 1, 1).turn(0, 0, 0), -2);
        s.due("-1", Desks.withWind(0, 0, 0, 1, 1).turn(0, 0, -1), -2);
        s.due("ahead of NONE", new WindRoses().turn(0, 0, 16), -2);

        s.of("Promise 5", "NONE without windy hours.");
        s.due("an empty log", new WindRoses().turn(0, 0, 1), -5);
        s.due("calm ones alone", Desks.withCalm(0, 0, 5).turn(0, 0, 1), -5);
        s.due("another log has some", Desks.withWind(0, 1, 0, 1, 1).turn(0, 0, 1), -5);
        s.due("one windy hour is enough", Desks.withWind(0, 0, 0, 1, 1).turn(0, 0, 1), 1);
        WindRoses struck = Desks.withWind(0, 0, 0, 1, 1);
        struck.strike(0, 0, 0, 1);
        s.due("all are struck", struck.turn(0, 0, 1), -5);
    }

    // ---- Promise 6

    private void promise6() {
        s.of("Promise 6", "Sets a setting.");
        WindRoses desk = new WindRoses();
        desk.set(0, 2);
        desk.set(1, 3);
        desk.set(2, 4);
        for (int which = 0; which < 3; which++) {
            s.due("setting " + which, desk.count(6 + which), 2 + which);
        }

        s.of("Promise 6", "This is an act.");
        HistoryBoundaries.lookAtAct(s, Desks.withWind(0, 0, 2, 5, 2), any -> any.set(0, 5));
        HistoryBoundaries.lookAtAct(s, Desks.withWind(0, 0, 2, 31, 2), any -> any.set(1, 40));
        HistoryBoundaries.lookAtAct(s, new WindRoses(), any -> any.set(2, 0));

        s.of("Promise 6", "`which`: 0 to 2");
        int[] first = {12, 30, 5};
        s.range("which", which -> new WindRoses().set(which, which == 1 ? 99 : 1), 0, 2, which -> first[which], -1);

        s.of("Promise 6", "`value`: in its range");
        s.range("setting 0", value -> setOnWide(0, value), 1, 99, value -> value == 1 ? -5 : value == 99 ? -4 : 1, -2);
        s.range("setting 1", value -> setOnWide(1, value), 1, 99, value -> value == 1 ? -4 : value == 99 ? -5 : 99, -2);
        s.range("setting 2", value -> setOnWide(2, value), 0, 9, value -> value == 5 ? -5 : 5, -2);
        promise6Answers();
    }

    /** With bounds of 1 and 99 there is room for any other value. */
    private static int setOnWide(int which, int value) {
        WindRoses desk = new WindRoses();
        desk.set(0, 1);
        desk.set(1, 99);
        return desk.set(which, value);
    }

    private void promise6Answers() {
        s.of("Promise 6", "Returns the previous one");
        WindRoses desk = new WindRoses();
        s.due("at first", desk.set(2, 0), 5);
        s.due("0 is one, too", desk.set(2, 9), 0);
        s.due("the latest", desk.set(2, 1), 9);
        s.due("setting 0", desk.set(0, 29), 12);
        s.due("setting 1", desk.set(1, 99), 30);

        s.of("Promise 6", "UNKNOWN");
        s.due("3", new WindRoses().set(3, 5), -1);
        s.due("ahead of BAD_VALUE", new WindRoses().set(-1, 100), -1);

        s.of("Promise 6", "BAD_VALUE");
        s.due("ahead of NOT_POSSIBLE", new WindRoses().set(0, 100), -2);
        s.due("ahead of NOT_POSSIBLE", new WindRoses().set(1, 0), -2);
        s.due("10 scrapes", new WindRoses().set(2, 10), -2);
        s.due("-1 scrapes", new WindRoses().set(2, -1), -2);

        s.of("Promise 6", "NOT_POSSIBLE if the setting 0 would not be less than the setting 1");
        s.due("setting 0 as great", new WindRoses().set(0, 30), -4);
        s.due("setting 0 just below", new WindRoses().set(0, 29), 12);
        s.due("setting 1 as small", new WindRoses().set(1, 12), -4);
        s.due("setting 1 just above", new WindRoses().set(1, 13), 30);
        s.due("setting 2 is not compared with them", new WindRoses().set(2, 1), 5);

        s.of("Promise 6", "NONE if it is so already.");
        s.due("setting 0", new WindRoses().set(0, 12), -5);
        s.due("setting 1", new WindRoses().set(1, 30), -5);
        s.due("setting 2", new WindRoses().set(2, 5), -5);
        WindRoses again = new WindRoses();
        s.due("first", again.set(1, 99), 30);
        s.due("then", again.set(1, 99), -5);
        s.due("back", again.set(1, 30), 99);
    }
}
