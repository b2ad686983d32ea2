/** The edges of the term SHARES and of the promises 15 to 22: what is told of logs. */
final class TellBoundaries {
    private interface Part {
        int of(WindRoses desk, int port, int season, int direction, int kind);
    }

    private static final int[] SPEEDS = {5, 20, 60};

    private final Sentences s;

    private TellBoundaries(Sentences sentences) {
        s = sentences;
    }

    static void lookAt(Sentences sentences) {
        TellBoundaries edges = new TellBoundaries(sentences);
        edges.wholeDesk();
        edges.terms();
        edges.promise15();
        edges.promise16();
        edges.promise17();
        edges.promise18();
        edges.promise19();
        edges.promise20();
        edges.promise21();
        edges.promise22();
    }

    private static void logPart(WindRoses desk, int direction, int kind, int hours) {
        Desks.log(desk, 0, 0, direction, SPEEDS[kind], hours);
    }

    private void dueShare(WindRoses desk, int direction, int kind, int want) {
        String part = "(0, 0, " + direction + ", " + kind + ")";
        s.due("share" + part, desk.share(0, 0, direction, kind), want);
        s.due("dealt" + part, desk.dealt(0, 0, direction, kind), want);
    }

    // ---- What it is

    private void wholeDesk() {
        s.of("What it is", "calm hours that are set aside");
        WindRoses aside = Desks.withWind(0, 0, 3, 20, 1);
        Desks.log(aside, 0, 0, 0, 0, 9998);
        dueShare(aside, 3, 1, 100);
        s.due("windy hours", aside.rose(0, 0, 1), 1);
        s.due("prevailing direction", aside.rose(0, 0, 9), 3);
        s.due("mean speed", aside.rose(0, 0, 5), 20);

        s.of("What it is", "shares in hundredths that add up to a hundred");
        for (int seed = 1; seed <= 50; seed++) {
            WindRoses desk = manyParts(seed);
            int shares = 0;
            int dealt = 0;
            for (int part = 0; part < 48; part++) {
                shares += desk.share(0, 0, part / 3, part % 3);
                dealt += desk.dealt(0, 0, part / 3, part % 3);
            }
            s.due("shares together", shares, 100);
            s.due("dealt together", dealt, 100);
        }

        s.of("What it is", "accounts that add up");
        for (int seed = 1; seed <= 50; seed++) {
            WindRoses desk = manyParts(seed);
            desk.calm(0, 0, seed);
            int hours = 0;
            int parts = 0;
            for (int direction = 0; direction < 16; direction++) {
                hours += desk.hours(0, 0, direction, 3);
                for (int kind = 0; kind < 3; kind++) {
                    parts += desk.hours(0, 0, direction, kind);
                }
            }
            s.due("hours of all directions", hours, desk.rose(0, 0, 1));
            s.due("hours of all parts", parts, desk.rose(0, 0, 1));
            s.due("hours of all classes", desk.rose(0, 0, 6) + desk.rose(0, 0, 7) + desk.rose(0, 0, 8),
                desk.rose(0, 0, 1));
            s.due("windy and calm hours", desk.rose(0, 0, 1) + seed, desk.rose(0, 0, 0));
            s.due("hours of all logs", desk.count(0), desk.rose(0, 0, 0));
        }
    }

    /** A log of one hour at least, and of few hours or many in most parts. */
    private static WindRoses manyParts(int seed) {
        WindRoses desk = Desks.withWind(0, 0, seed % 16, 50, 1);
        int number = seed * 7919;
        for (int part = 0; part < 48; part++) {
            number = (number * 1103 + 12345) % 99991;
            logPart(desk, part / 3, part % 3, number % (1 + seed % 9 * 11));
        }
        return desk;
    }

    // ---- SHARES

    private void terms() {
        calmShare();
        parts();
        shareOfAPart();
        missingHundredths();
        likeRemainders();
        withoutWind();
    }

    private void calmShare() {
        s.of("SHARES", "The calm share of a log is 100 times its calm hours, divided by all of its hours, rounded down "
            + "(0 without hours).");
        int[][] calmWindyShare = {{0, 0, 0}, {0, 1, 0}, {1, 0, 100}, {9999, 0, 100}, {1, 2, 33}, {2, 1, 66}, {1, 1, 50},
            {1, 99, 1}, {1, 100, 0}, {99, 1, 99}, {9998, 1, 99}, {1, 9998, 0}, {5000, 4999, 50}, {4999, 5000, 49}};
        for (int[] one : calmWindyShare) {
            WindRoses desk = Desks.withCalm(0, 0, one[0]);
            Desks.log(desk, 0, 0, 3, 3, one[1]);
            String of = "calm share of " + one[0] + " beside " + one[1];
            s.due(of, desk.rose(0, 0, 3), one[2]);
            int engraved = one[0] + one[1] == 0 ? -4 : (one[1] > 0 ? 1 : 0) + (one[2] > 0 ? 1 : 0);
            s.due("engraved with the " + of, desk.engrave(0, 0), engraved);
            s.due("circle of the " + of, desk.plate(0, 0, 0), one[2]);
        }
    }

    private void parts() {
        s.of("SHARES", "The windy hours of a log fall into 48 parts, by direction and class.");
        for (int part = 0; part < 48; part++) {
            WindRoses desk = new WindRoses();
            logPart(desk, part / 3, part % 3, 2);
            for (int looked = 0; looked < 48; looked++) {
                dueShare(desk, looked / 3, looked % 3, looked == part ? 100 : 0);
            }
        }
        WindRoses all = new WindRoses();
        for (int part = 0; part < 48; part++) {
            logPart(all, part / 3, part % 3, part < 2 ? 27 : 1);
        }
        for (int part = 0; part < 48; part++) {
            dueShare(all, part / 3, part % 3, part < 2 ? 27 : 1);
        }
    }

    private void shareOfAPart() {
        s.of("SHARES", "The share of a part is 100 times its hours, divided by all windy hours, rounded down;");
        WindRoses desk = new WindRoses();
        logPart(desk, 2, 0, 1);
        logPart(desk, 3, 0, 2);
        dueShare(desk, 2, 0, 33);
        dueShare(desk, 3, 0, 67);
        Desks.log(desk, 0, 0, 0, 0, 97);
        dueShare(desk, 2, 0, 33);
        dueShare(desk, 3, 0, 67);
        WindRoses small = new WindRoses();
        logPart(small, 15, 2, 9900);
        logPart(small, 0, 0, 49);
        dueShare(small, 0, 0, 0);
        dueShare(small, 15, 2, 100);
        logPart(small, 0, 0, 2);
        dueShare(small, 0, 0, 1);
        dueShare(small, 15, 2, 99);
    }

    private void missingHundredths() {
        s.of("SHARES", "as many hundredths as are missing to 100 then are given to the parts with the greatest remainders "
            + "(of that division), one to each");
        WindRoses none = new WindRoses();
        logPart(none, 0, 0, 25);
        logPart(none, 1, 0, 75);
        dueShare(none, 0, 0, 25);
        dueShare(none, 1, 0, 75);
        dueShare(none, 0, 1, 0);
        // Of 101 hours: 53 46/101, and 100/101 for each of the others: 47 are missing.
        WindRoses most = new WindRoses();
        logPart(most, 0, 0, 54);
        for (int part = 1; part < 48; part++) {
            logPart(most, part / 3, part % 3, 1);
        }
        for (int part = 0; part < 48; part++) {
            dueShare(most, part / 3, part % 3, part == 0 ? 53 : 1);
        }
        // Of 7 hours: 14 2/7, 28 4/7 and 57 1/7: one is missing.
        WindRoses one = new WindRoses();
        logPart(one, 0, 0, 1);
        logPart(one, 9, 1, 2);
        logPart(one, 4, 2, 4);
        dueShare(one, 0, 0, 14);
        dueShare(one, 9, 1, 29);
        dueShare(one, 4, 2, 57);
        // Of 9999 hours: 50 50/9999 and 49 9949/9999.
        WindRoses full = new WindRoses();
        logPart(full, 0, 0, 5000);
        logPart(full, 15, 2, 4999);
        dueShare(full, 0, 0, 50);
        dueShare(full, 15, 2, 50);
    }

    private void likeRemainders() {
        s.of("SHARES", "of like remainders to the part with the lowest direction first, then with the lowest class.");
        // Of six like hours each has 16 4/6, and four are missing.
        WindRoses six = new WindRoses();
        for (int direction = 15; direction >= 14; direction--) {
            for (int kind = 2; kind >= 0; kind--) {
                logPart(six, direction, kind, 1);
            }
        }
        for (int kind = 0; kind < 3; kind++) {
            dueShare(six, 14, kind, 17);
            dueShare(six, 15, kind, kind == 0 ? 17 : 16);
        }
        WindRoses three = new WindRoses();
        logPart(three, 1, 0, 1);
        logPart(three, 0, 2, 1);
        logPart(three, 0, 1, 1);
        dueShare(three, 1, 0, 33);
        dueShare(three, 0, 2, 33);
        dueShare(three, 0, 1, 34);
        // Of 48 like hours each has 2 4/48, and four are missing.
        WindRoses all = new WindRoses();
        for (int part = 0; part < 48; part++) {
            logPart(all, part / 3, part % 3, 1);
        }
        for (int part = 0; part < 48; part++) {
            dueShare(all, part / 3, part % 3, part < 4 ? 3 : 2);
        }
    }

    private void withoutWind() {
        s.of("SHARES", "Without windy hours all shares are 0.");
        WindRoses calm = Desks.withCalm(0, 0, 5);
        WindRoses struck = Desks.withWind(0, 0, 7, 20, 4);
        struck.strike(0, 0, 7, 20);
        for (int part = 0; part < 48; part++) {
            dueShare(new WindRoses(), part / 3, part % 3, 0);
            dueShare(calm, part / 3, part % 3, 0);
            dueShare(struck, part / 3, part % 3, 0);
        }
        struck.log(0, 0, 7, 20, 1);
        dueShare(struck, 7, 1, 100);
    }

    // ---- Promise 15

    private void promise15() {
        s.of("Promise 15", "`port`: 0 to 3");
        s.range("port", port -> Desks.withCalm(port, 2, 3).rose(port, 2, 0), 0, 3, 3, -1);
        s.of("Promise 15", "`season`: 0 to 3");
        s.range("season", season -> Desks.withCalm(2, season, 3).rose(2, season, 0), 0, 3, 3, -1);
        s.of("Promise 15", "`what`: 0 for all hours, 1 for windy ones, 2 for calm ones, 3 for the calm share");
        int[] hours = {7, 4, 3, 42};
        WindRoses desk = Desks.withCalm(1, 1, 3);
        desk.log(1, 1, 5, 5, 4);
        for (int what = 0; what <= 3; what++) {
            s.due("rose(1, 1, " + what + ")", desk.rose(1, 1, what), hours[what]);
            s.due("without hours", new WindRoses().rose(1, 1, what), 0);
        }
        s.due("all of a full log", Desks.withWind(0, 0, 0, 1, 9999).rose(0, 0, 0), 9999);
        greatestSpeed();
        meanSpeed();
        hoursOfClasses();
        prevailingDirection();

        s.of("Promise 15", "Returns the number");
        s.due("hours", Desks.withCalm(3, 0, 1).rose(3, 0, 0), 1);
        s.of("Promise 15", "UNKNOWN (port or season)");
        s.due("port, ahead of BAD_VALUE", new WindRoses().rose(4, 0, 10), -1);
        s.due("season, ahead of BAD_VALUE", new WindRoses().rose(0, -1, -1), -1);
        s.due("ahead of NONE", new WindRoses().rose(-1, 0, 4), -1);
        s.of("Promise 15", "BAD_VALUE");
        s.outside("what", what -> desk.rose(1, 1, what), 0, 9, -2);
    }

    private void greatestSpeed() {
        s.of("Promise 15", "4 for the greatest speed (NONE without windy hours)");
        s.due("an empty log", new WindRoses().rose(0, 0, 4), -5);
        s.due("calm ones alone", Desks.withCalm(0, 0, 5).rose(0, 0, 4), -5);
        for (int speed = 1; speed <= 99; speed++) {
            WindRoses desk = Desks.withWind(0, 0, speed % 16, speed, 1);
            desk.log(0, 0, 15, 1, 99);
            s.due("beside many slow ones", desk.rose(0, 0, 4), speed);
        }
        WindRoses struck = Desks.withWind(0, 0, 15, 99, 1);
        struck.log(0, 0, 0, 98, 1);
        s.due("of two", struck.rose(0, 0, 4), 99);
        struck.strike(0, 0, 15, 99);
        s.due("when one is struck", struck.rose(0, 0, 4), 98);
        struck.strike(0, 0, 0, 98);
        s.due("when both are struck", struck.rose(0, 0, 4), -5);
        s.due("another log's", Desks.withWind(0, 1, 0, 9, 1).rose(0, 0, 4), -5);
    }

    private void meanSpeed() {
        s.of("Promise 15", "5 for the mean speed of windy hours, rounded down (NONE without)");
        s.due("an empty log", new WindRoses().rose(0, 0, 5), -5);
        s.due("calm ones alone", Desks.withCalm(0, 0, 5).rose(0, 0, 5), -5);
        WindRoses desk = Desks.withWind(0, 0, 0, 1, 1);
        s.due("1", desk.rose(0, 0, 5), 1);
        desk.log(0, 0, 15, 2, 1);
        s.due("1 and 2", desk.rose(0, 0, 5), 1);
        desk.log(0, 0, 7, 3, 1);
        s.due("1, 2 and 3", desk.rose(0, 0, 5), 2);
        desk.calm(0, 0, 50);
        s.due("calm hours have no speed", desk.rose(0, 0, 5), 2);
        desk.log(0, 0, 7, 99, 97);
        s.due("by hours, not by speeds", desk.rose(0, 0, 5), 96);
        s.due("99", Desks.withWind(0, 0, 15, 99, 9999).rose(0, 0, 5), 99);
        WindRoses full = Desks.withWind(0, 0, 15, 99, 9998);
        full.log(0, 0, 0, 98, 1);
        s.due("nearly 99", full.rose(0, 0, 5), 98);
    }

    private void hoursOfClasses() {
        s.of("Promise 15", "6 to 8 for windy hours of the classes 0 to 2");
        WindRoses desk = Desks.withCalm(0, 0, 50);
        int[] speeds = {1, 11, 12, 29, 30, 99};
        for (int i = 0; i < speeds.length; i++) {
            desk.log(0, 0, i * 3, speeds[i], 1 << i);
        }
        s.due("6 for class 0", desk.rose(0, 0, 6), 3);
        s.due("7 for class 1", desk.rose(0, 0, 7), 12);
        s.due("8 for class 2", desk.rose(0, 0, 8), 48);
        s.due("5 is no class", desk.rose(0, 0, 5), (1 + 22 + 48 + 232 + 480 + 3168) / 63);
        for (int what = 6; what <= 8; what++) {
            s.due("without windy ones", Desks.withCalm(0, 0, 5).rose(0, 0, what), 0);
        }
    }

    private void prevailingDirection() {
        s.of("Promise 15", "9 for the direction with the most hours, of several the lowest (NONE without windy hours)");
        s.due("an empty log", new WindRoses().rose(0, 0, 9), -5);
        s.due("calm ones alone", Desks.withCalm(0, 0, 5).rose(0, 0, 9), -5);
        for (int direction = 0; direction < 16; direction++) {
            WindRoses desk = Desks.withWind(0, 0, direction, 50, 3);
            s.due("the only one", desk.rose(0, 0, 9), direction);
            int other = (direction + 5) % 16;
            desk.log(0, 0, other, 1, 1);
            desk.log(0, 0, other, 2, 1);
            s.due("more than another", desk.rose(0, 0, 9), direction);
            desk.log(0, 0, other, 99, 1);
            s.due("as many: the lowest", desk.rose(0, 0, 9), Math.min(direction, other));
            desk.log(0, 0, other, 99, 1);
            s.due("fewer than another", desk.rose(0, 0, 9), other);
        }
        WindRoses all = new WindRoses();
        for (int direction = 15; direction >= 0; direction--) {
            all.log(0, 0, direction, 7, 2);
        }
        s.due("of sixteen", all.rose(0, 0, 9), 0);
    }

    // ---- Promise 16

    private void promise16() {
        s.of("Promise 16", "Tells the hours of a direction and a class.");
        WindRoses desk = Desks.withCalm(2, 0, 77);
        for (int direction = 0; direction < 16; direction++) {
            for (int kind = 0; kind < 3; kind++) {
                desk.log(2, 0, direction, SPEEDS[kind], direction * 3 + kind + 1);
                desk.log(2, 0, direction, SPEEDS[kind] + 1, 50);
            }
        }
        for (int direction = 0; direction < 16; direction++) {
            for (int kind = 0; kind < 3; kind++) {
                s.due("of " + direction + " " + kind, desk.hours(2, 0, direction, kind), direction * 3 + kind + 51);
            }
            s.due("of " + direction, desk.hours(2, 0, direction, 3), direction * 9 + 156);
        }

        s.of("Promise 16", "`port`: 0 to 3");
        s.range("port", port -> Desks.withWind(port, 2, 5, 5, 3).hours(port, 2, 5, 0), 0, 3, 3, -1);
        s.of("Promise 16", "`season`: 0 to 3");
        s.range("season", season -> Desks.withWind(2, season, 5, 5, 3).hours(2, season, 5, 0), 0, 3, 3, -1);
        s.of("Promise 16", "`direction`: 0 to 15");
        s.range("direction", direction -> Desks.withWind(2, 2, direction & 15, 5, 3).hours(2, 2, direction, 0),
            0, 15, 3, -1);
        s.of("Promise 16", "`kind`: the class, 0 to 2, or 3 for all of them");
        s.range("class", kind -> desk.hours(2, 0, 0, kind), 0, 3, kind -> kind == 3 ? 156 : 51 + kind, -1);

        s.of("Promise 16", "Returns how many");
        s.due("none", new WindRoses().hours(0, 0, 0, 0), 0);
        s.due("calm ones are none", Desks.withCalm(0, 0, 9).hours(0, 0, 0, 3), 0);
        s.due("as many as a log has at most", Desks.withWind(0, 0, 15, 99, 9999).hours(0, 0, 15, 2), 9999);
        s.due("all of them", Desks.withWind(0, 0, 15, 99, 9999).hours(0, 0, 15, 3), 9999);
        s.of("Promise 16", "UNKNOWN (port, season, direction or class).");
        unknownPart("hours", (any, port, season, direction, kind) -> any.hours(port, season, direction, kind), 4);
    }

    private void unknownPart(String call, Part told, int noClass) {
        WindRoses desk = new WindRoses();
        s.due(call + ": port", told.of(desk, 4, 0, 0, 0), -1);
        s.due(call + ": season", told.of(desk, 0, 4, 0, 0), -1);
        s.due(call + ": direction", told.of(desk, 0, 0, 16, 0), -1);
        s.due(call + ": direction", told.of(desk, 0, 0, -1, noClass - 1), -1);
        s.due(call + ": class", told.of(desk, 0, 0, 0, noClass), -1);
        s.due(call + ": class", told.of(desk, 3, 3, 15, -1), -1);
    }

    // ---- Promises 17 and 18

    private void promise17() {
        s.of("Promise 17", "Tells the share of a part.");
        sharesOfAllRoses((any, port, season, direction, kind) -> any.share(port, season, direction, kind));
        s.of("Promise 17", "`port`: 0 to 3");
        s.range("port", port -> Desks.withWind(port, 2, 5, 5, 3).share(port, 2, 5, 0), 0, 3, 100, -1);
        s.of("Promise 17", "`season`: 0 to 3");
        s.range("season", season -> Desks.withWind(2, season, 5, 5, 3).share(2, season, 5, 0), 0, 3, 100, -1);
        s.of("Promise 17", "`direction`: 0 to 15");
        s.range("direction", direction -> Desks.withWind(2, 2, direction & 15, 5, 3).share(2, 2, direction, 0),
            0, 15, 100, -1);
        s.of("Promise 17", "`kind`: the class, 0 to 2");
        s.range("class", kind -> oneOfThree().share(1, 1, 6, kind), 0, 2, kind -> kind == 0 ? 34 : 33, -1);
        s.of("Promise 17", "Returns the share");
        s.due("none", new WindRoses().share(0, 0, 0, 0), 0);
        s.due("all", Desks.withWind(0, 0, 0, 1, 9999).share(0, 0, 0, 0), 100);
        s.of("Promise 17", "UNKNOWN (port, season, direction or class).");
        unknownPart("share", (any, port, season, direction, kind) -> any.share(port, season, direction, kind), 3);
    }

    private static WindRoses oneOfThree() {
        WindRoses desk = new WindRoses();
        for (int speed : SPEEDS) {
            desk.log(1, 1, 6, speed, 1);
        }
        return desk;
    }

    /** A share of one log is not that of another, whichever was looked at before. */
    private void sharesOfAllRoses(Part told) {
        WindRoses desk = new WindRoses();
        for (int rose = 0; rose < 16; rose++) {
            desk.log(rose / 4, rose % 4, 2, 5, 1 + rose);
            desk.log(rose / 4, rose % 4, 3, 50, 99 - rose);
        }
        for (int rose = 15; rose >= 0; rose--) {
            s.due("of the log " + rose, told.of(desk, rose / 4, rose % 4, 2, 0), 1 + rose);
            s.due("of the log " + rose, told.of(desk, rose / 4, rose % 4, 3, 2), 99 - rose);
            s.due("of the log " + rose, told.of(desk, rose / 4, rose % 4, 3, 1), 0);
        }
    }

    private void promise18() {
        s.of("Promise 18", "Tells the same in another way: by giving the missing hundredths one after the other to the "
            + "part that has the greatest remainder of those that have got none.");
        sharesOfAllRoses((any, port, season, direction, kind) -> any.dealt(port, season, direction, kind));
        for (int seed = 1; seed <= 60; seed++) {
            WindRoses desk = manyParts(seed);
            int sum = 0;
            for (int part = 0; part < 48; part++) {
                int dealt = desk.dealt(0, 0, part / 3, part % 3);
                s.due("as share, " + seed, dealt, desk.share(0, 0, part / 3, part % 3));
                sum += dealt;
            }
            s.due("together, " + seed, sum, 100);
        }

        s.of("Promise 18", "`port`: 0 to 3");
        s.range("port", port -> Desks.withWind(port, 2, 5, 5, 3).dealt(port, 2, 5, 0), 0, 3, 100, -1);
        s.of("Promise 18", "`season`: 0 to 3");
        s.range("season", season -> Desks.withWind(2, season, 5, 5, 3).dealt(2, season, 5, 0), 0, 3, 100, -1);
        s.of("Promise 18", "`direction`: 0 to 15");
        s.range("direction", direction -> Desks.withWind(2, 2, direction & 15, 5, 3).dealt(2, 2, direction, 0),
            0, 15, 100, -1);
        s.of("Promise 18", "`kind`: the class, 0 to 2");
        s.range("class", kind -> oneOfThree().dealt(1, 1, 6, kind), 0, 2, kind -> kind == 0 ? 34 : 33, -1);
        s.of("Promise 18", "Returns the share");
        s.due("none", new WindRoses().dealt(0, 0, 0, 0), 0);
        s.due("all", Desks.withWind(0, 0, 0, 1, 9999).dealt(0, 0, 0, 0), 100);
        s.of("Promise 18", "UNKNOWN (port, season, direction or class).");
        unknownPart("dealt", (any, port, season, direction, kind) -> any.dealt(port, season, direction, kind), 3);
    }

    // ---- Promise 19

    private void promise19() {
        s.of("Promise 19", "Tells the hours of a quarter: of the direction in its midst (0, 4, 8 and 12), of one direction "
            + "on either side, and half of the sum of those of the next ones on either side");
        for (int direction = 0; direction < 16; direction++) {
            WindRoses desk = Desks.withWind(1, 2, direction, 50, 8);
            for (int quarter = 0; quarter < 4; quarter++) {
                int away = Math.abs(direction - quarter * 4);
                int around = Math.min(away, 16 - away);
                int want = around <= 1 ? 8 : around == 2 ? 4 : 0;
                s.due(direction + " in the quarter " + quarter, desk.quarter(1, 2, quarter), want);
            }
        }

        s.of("Promise 19", "rounded down.");
        for (int quarter = 0; quarter < 4; quarter++) {
            int low = (quarter * 4 + 14) % 16;
            int high = (quarter * 4 + 2) % 16;
            s.due("half of 1", Desks.withWind(0, 0, low, 9, 1).quarter(0, 0, quarter), 0);
            s.due("half of 1", Desks.withWind(0, 0, high, 9, 1).quarter(0, 0, quarter), 0);
            WindRoses desk = Desks.withWind(0, 0, low, 9, 1);
            desk.log(0, 0, high, 60, 1);
            s.due("half of the sum of 1 and 1", desk.quarter(0, 0, quarter), 1);
            desk.log(0, 0, high, 20, 1);
            s.due("half of the sum of 1 and 2", desk.quarter(0, 0, quarter), 1);
            desk.log(0, 0, quarter * 4, 20, 1);
            s.due("1 and half of 3", desk.quarter(0, 0, quarter), 2);
        }

        s.of("Promise 19", "`port`: 0 to 3");
        s.range("port", port -> Desks.withWind(port, 2, 4, 5, 3).quarter(port, 2, 1), 0, 3, 3, -1);
        s.of("Promise 19", "`season`: 0 to 3");
        s.range("season", season -> Desks.withWind(2, season, 4, 5, 3).quarter(2, season, 1), 0, 3, 3, -1);
        s.of("Promise 19", "`quarter`: 0 to 3");
        WindRoses four = new WindRoses();
        for (int quarter = 0; quarter < 4; quarter++) {
            four.log(3, 0, quarter * 4, 5, 1 + quarter);
        }
        s.range("quarter", quarter -> four.quarter(3, 0, quarter), 0, 3, quarter -> 1 + quarter, -1);

        s.of("Promise 19", "Returns how many");
        s.due("none", new WindRoses().quarter(0, 0, 0), 0);
        s.due("calm ones are none", Desks.withCalm(0, 0, 9).quarter(0, 0, 0), 0);
        s.due("a full log", Desks.withWind(0, 0, 15, 99, 9999).quarter(0, 0, 0), 9999);
        s.of("Promise 19", "UNKNOWN (port, season or quarter).");
        s.due("port", new WindRoses().quarter(-1, 0, 0), -1);
        s.due("season", new WindRoses().quarter(0, -1, 0), -1);
        s.due("quarter", new WindRoses().quarter(0, 0, -1), -1);
    }

    // ---- Promise 20

    private void promise20() {
        s.of("Promise 20", "Tells how many hours more winds come from a direction than from the one that is opposite.");
        for (int direction = 0; direction < 16; direction++) {
            WindRoses desk = Desks.withWind(0, 3, direction, 5, 4);
            desk.log(0, 3, direction, 99, 5);
            int opposite = direction < 8 ? direction + 8 : direction - 8;
            s.due("without opposite ones", desk.excess(0, 3, direction), 9);
            desk.log(0, 3, opposite, 20, 2);
            for (int looked = 0; looked < 16; looked++) {
                s.due(direction + ", looked at " + looked, desk.excess(0, 3, looked), looked == direction ? 7 : 0);
            }
        }

        s.of("Promise 20", "`port`: 0 to 3");
        s.range("port", port -> Desks.withWind(port, 2, 4, 5, 3).excess(port, 2, 4), 0, 3, 3, -1);
        s.of("Promise 20", "`season`: 0 to 3");
        s.range("season", season -> Desks.withWind(2, season, 4, 5, 3).excess(2, season, 4), 0, 3, 3, -1);
        s.of("Promise 20", "`direction`: 0 to 15");
        s.range("direction", direction -> Desks.withWind(2, 1, direction & 15, 5, 3).excess(2, 1, direction),
            0, 15, 3, -1);

        s.of("Promise 20", "Returns how many, 0 if fewer");
        WindRoses desk = Desks.withWind(0, 0, 7, 5, 3);
        desk.log(0, 0, 15, 5, 2);
        s.due("one more", desk.excess(0, 0, 7), 1);
        s.due("one fewer", desk.excess(0, 0, 15), 0);
        desk.log(0, 0, 15, 50, 1);
        s.due("as many", desk.excess(0, 0, 7), 0);
        s.due("as many", desk.excess(0, 0, 15), 0);
        desk.log(0, 0, 15, 20, 90);
        s.due("many fewer", desk.excess(0, 0, 7), 0);
        s.due("an empty log", new WindRoses().excess(0, 0, 0), 0);
        s.due("a full log", Desks.withWind(0, 0, 8, 99, 9999).excess(0, 0, 8), 9999);
        s.due("against a full log", Desks.withWind(0, 0, 8, 99, 9999).excess(0, 0, 0), 0);
        s.of("Promise 20", "UNKNOWN (port, season or direction).");
        s.due("port", new WindRoses().excess(4, 0, 0), -1);
        s.due("season", new WindRoses().excess(0, 4, 0), -1);
        s.due("direction", new WindRoses().excess(0, 0, 16), -1);
    }

    // ---- Promise 21

    private void promise21() {
        s.of("Promise 21", "Tells how unlike two roses of a season are: the differences of the shares of all parts, "
            + "without signs, together.");
        for (int part = 0; part < 48; part++) {
            WindRoses desk = Desks.withWind(1, 2, part / 3, SPEEDS[part % 3], 1);
            desk.log(1, 2, (part / 3 + 1) % 16, SPEEDS[part % 3], 3);
            desk.log(3, 2, part / 3, SPEEDS[part % 3], 3);
            desk.log(3, 2, (part / 3 + 1) % 16, SPEEDS[part % 3], 1);
            s.due("25 and 75 against 75 and 25", desk.unlike(1, 3, 2), 100);
            s.due("the other way round", desk.unlike(3, 1, 2), 100);
            s.due("another season", desk.unlike(3, 1, 1), 0);
        }

        s.of("Promise 21", "`port`: 0 to 3");
        s.range("port", port -> Desks.withWind(port == 0 ? 1 : 0, 2, 4, 5, 3).unlike(port, port == 0 ? 1 : 0, 2),
            0, 3, 100, -1);
        s.of("Promise 21", "`other`: 0 to 3");
        s.range("other", other -> Desks.withWind(other == 0 ? 1 : 0, 2, 4, 5, 3).unlike(other == 0 ? 1 : 0, other, 2),
            0, 3, 100, -1);
        s.of("Promise 21", "`season`: 0 to 3");
        s.range("season", season -> Desks.withWind(3, season & 3, 4, 5, 3).unlike(2, 3, season), 0, 3, 100, -1);

        s.of("Promise 21", "Returns the sum");
        WindRoses desk = new WindRoses();
        s.due("both without windy hours", desk.unlike(0, 3, 3), 0);
        desk.log(0, 3, 0, 1, 1);
        s.due("one without", desk.unlike(0, 3, 3), 100);
        desk.log(3, 3, 0, 11, 99);
        s.due("alike in other hours", desk.unlike(0, 3, 3), 0);
        desk.calm(3, 3, 99);
        s.due("calm ones are no part", desk.unlike(0, 3, 3), 0);
        desk.log(1, 3, 0, 12, 1);
        s.due("of another class: nothing in common", desk.unlike(0, 1, 3), 200);
        desk.log(2, 3, 15, 99, 1);
        s.due("of another direction: nothing in common", desk.unlike(1, 2, 3), 200);

        s.of("Promise 21", "UNKNOWN (port, other or season)");
        s.due("port", desk.unlike(4, 0, 0), -1);
        s.due("other", desk.unlike(0, 4, 0), -1);
        s.due("season", desk.unlike(0, 1, 4), -1);
        s.due("ahead of BAD_VALUE", desk.unlike(-1, -1, 0), -1);
        s.due("ahead of BAD_VALUE", desk.unlike(4, 4, 0), -1);
        s.due("ahead of BAD_VALUE", desk.unlike(2, 2, -1), -1);

        s.of("Promise 21", "BAD_VALUE if both are the same.");
        for (int port = 0; port < 4; port++) {
            s.due("port " + port, desk.unlike(port, port, 3), -2);
        }
    }

    // ---- Promise 22

    private void promise22() {
        s.of("Promise 22", "Finds the season in which a port has the most hours of a class, of several the lowest.");
        for (int season = 0; season < 4; season++) {
            WindRoses desk = Desks.withWind(2, season, 0, 20, 3);
            s.due("the only one", desk.seasonOf(2, 1), season);
            int other = (season + 1) % 4;
            desk.log(2, other, 15, 12, 1);
            desk.log(2, other, 14, 29, 1);
            s.due("more than another", desk.seasonOf(2, 1), season);
            desk.log(2, other, 3, 15, 1);
            s.due("as many: the lowest", desk.seasonOf(2, 1), Math.min(season, other));
            desk.log(2, other, 3, 15, 1);
            s.due("fewer than another", desk.seasonOf(2, 1), other);
            desk.log(2, season, 3, 30, 99);
            desk.log(2, season, 3, 11, 99);
            desk.calm(2, season, 99);
            s.due("other classes are not counted", desk.seasonOf(2, 1), other);
        }
        WindRoses all = new WindRoses();
        for (int season = 3; season >= 0; season--) {
            all.log(0, season, 5, 40, 7);
        }
        s.due("of four", all.seasonOf(0, 2), 0);

        s.of("Promise 22", "`port`: 0 to 3");
        s.range("port", port -> Desks.withWind(port, 2, 4, 5, 3).seasonOf(port, 0), 0, 3, 2, -1);
        s.of("Promise 22", "`kind`: the class, 0 to 2");
        s.range("class", kind -> Desks.withWind(1, 3, 4, SPEEDS[kind < 0 || kind > 2 ? 0 : kind], 3).seasonOf(1, kind),
            0, 2, 3, -1);

        s.of("Promise 22", "Returns the season");
        s.due("0", Desks.withWind(1, 0, 4, 5, 1).seasonOf(1, 0), 0);
        s.due("3", Desks.withWind(1, 3, 4, 5, 1).seasonOf(1, 0), 3);
        s.of("Promise 22", "UNKNOWN (port or class)");
        s.due("port", new WindRoses().seasonOf(4, 0), -1);
        s.due("class", new WindRoses().seasonOf(0, 3), -1);
        s.due("class", Desks.withWind(0, 0, 0, 5, 1).seasonOf(0, -1), -1);
        s.of("Promise 22", "NONE if there are none.");
        s.due("empty logs", new WindRoses().seasonOf(0, 0), -5);
        s.due("calm ones alone", Desks.withCalm(0, 0, 9).seasonOf(0, 0), -5);
        s.due("another class", Desks.withWind(0, 0, 0, 5, 1).seasonOf(0, 1), -5);
        s.due("another port", Desks.withWind(0, 0, 0, 5, 1).seasonOf(1, 0), -5);
    }
}
