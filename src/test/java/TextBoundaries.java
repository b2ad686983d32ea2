/** The edges of the term TEXTS and of the promises 9 to 11: type, clearText, logAll. */
final class TextBoundaries {
    private final Sentences s;

    private TextBoundaries(Sentences sentences) {
        s = sentences;
    }

    static void lookAt(Sentences sentences) {
        TextBoundaries edges = new TextBoundaries(sentences);
        edges.terms();
        edges.promise9();
        edges.promise10();
        edges.promise11();
    }

    private void dueFault(String text, int place) {
        WindRoses desk = Desks.withText(text);
        s.due("logAll of " + text, desk.logAll(), -100 - place);
        s.due("hours after " + text, desk.count(0), 0);
    }

    private void dueHours(String text, int hours) {
        WindRoses desk = Desks.withText(text);
        s.due("logAll of " + text, desk.logAll(), hours);
        s.due("hours after " + text, desk.count(0), hours);
    }

    // ---- TEXTS

    private void terms() {
        lengthOfTheText();
        logsOfAText();
        portOfAText();
        seasonOfAText();
        directionOfAText();
        speedOfAText();
        calmOfAText();
        hoursOfAText();
        hoursLeftOut();
        zeroInFront();
        digitTooMany();
        characterNotAllowed();
        textTooShort();
        emptyText();
    }

    private void lengthOfTheText() {
        s.of("TEXTS", "There is a text of at most 80 characters, empty at first.");
        WindRoses desk = new WindRoses();
        s.due("at first", desk.count(10), 0);
        String text = "0.0:c;".repeat(12) + "3.3:c*99";
        for (int i = 0; i < 80; i++) {
            s.due("character " + i, desk.type(text.charAt(i)), i + 1);
        }
        s.due("81st", desk.type('9'), -3);
        s.due("all 80 are read", desk.logAll(), 111);
        s.due("the last ones, too", desk.rose(3, 3, 2), 99);
    }

    private void logsOfAText() {
        s.of("TEXTS", "A log is a text: one or more of these with \";\" between two");
        StringBuilder text = new StringBuilder("0.0:c");
        for (int logs = 1; logs <= 13; logs++) {
            dueHours(text.toString(), logs);
            dueFault(text + ";", text.length() + 1);
            text.append(";0.0:c");
        }
        dueFault(";0.0:c", 0);
        dueFault("0.0:c;;0.0:c", 6);
        dueFault("0.0:c,0.0:c", 5);
        dueFault("0.0:c0.0:c", 5);
        WindRoses desk = Desks.withText("0.0:c*2;3.3:c*3;0.0:5@5*4;0.0:5@5");
        s.due("of several logs", desk.logAll(), 10);
        s.due("the first and the last", desk.rose(0, 0, 0), 7);
        s.due("one between", desk.rose(3, 3, 0), 3);
        s.due("like ones add up", desk.strike(0, 0, 5, 5), 5);
    }

    private void portOfAText() {
        s.of("TEXTS", "a port (0 to 3), \".\"");
        for (int port = 0; port <= 9; port++) {
            WindRoses desk = Desks.withText(port + ".1:c");
            s.due("port " + port, desk.logAll(), port <= 3 ? 1 : -100);
            s.due("in its log " + port, desk.rose(port, 1, 2), port <= 3 ? 1 : -1);
        }
        String[] none = {"-1.1:c", " 1.1:c", ".1:c", "c", "/.1:c", ":.1:c"};
        for (String text : none) {
            dueFault(text, 0);
        }
        dueFault("1,1:c", 1);
        dueFault("1:1:c", 1);
        dueFault("11:c", 1);
    }

    private void seasonOfAText() {
        s.of("TEXTS", "a season (0 to 3), \":\"");
        for (int season = 0; season <= 9; season++) {
            WindRoses desk = Desks.withText("2." + season + ":c");
            s.due("season " + season, desk.logAll(), season <= 3 ? 1 : -102);
            s.due("in its log " + season, desk.rose(2, season, 2), season <= 3 ? 1 : -1);
        }
        dueFault("2.:c", 2);
        dueFault("2..:c", 2);
        dueFault("2./:c", 2);
        dueFault("2.::c", 2);
        dueFault("2.1.c", 3);
        dueFault("2.1c", 3);
        dueFault("2.1;c", 3);
    }

    private void directionOfAText() {
        s.of("TEXTS", "a direction (0 to 15), \"@\"");
        for (int direction = 0; direction <= 15; direction++) {
            WindRoses desk = Desks.withText("1.2:" + direction + "@7");
            s.due("direction " + direction, desk.logAll(), 1);
            s.due("in its place " + direction, desk.strike(1, 2, direction, 7), 1);
        }
        for (int direction = 16; direction <= 99; direction++) {
            dueFault("1.2:" + direction + "@7", 5);
        }
        dueFault("1.2:100@7", 6);
        dueFault("1.2:150@7", 6);
        dueFault("1.2:@7", 4);
        dueFault("1.2:-1@7", 4);
        dueFault("1.2:/@7", 4);
        dueFault("1.2::@7", 4);
        dueFault("1.2:5*7", 5);
        dueFault("1.2:15*7", 6);
        dueFault("1.2:5c", 5);
        dueFault("1.2:15A7", 6);
    }

    private void speedOfAText() {
        s.of("TEXTS", "a speed (1 to 99)");
        for (int speed = 1; speed <= 99; speed++) {
            WindRoses desk = Desks.withText("1.2:3@" + speed);
            s.due("speed " + speed, desk.logAll(), 1);
            s.due("in its place " + speed, desk.strike(1, 2, 3, speed), 1);
        }
        dueFault("1.2:3@0", 6);
        dueFault("1.2:15@0", 7);
        dueFault("1.2:3@100", 8);
        dueFault("1.2:3@990", 8);
        dueFault("1.2:3@-5", 6);
        dueFault("1.2:3@*5", 6);
        dueFault("1.2:3@c", 6);
    }

    private void calmOfAText() {
        s.of("TEXTS", "or \"c\" (calm)");
        WindRoses desk = Desks.withText("1.2:c");
        s.due("calm", desk.logAll(), 1);
        s.due("calm hours", desk.rose(1, 2, 2), 1);
        s.due("no windy ones", desk.rose(1, 2, 1), 0);
        dueFault("1.2:C", 4);
        dueFault("1.2:b", 4);
        dueFault("1.2:d", 4);
        dueFault("1.2:cc", 5);
        dueFault("1.2:c@5", 5);
        dueFault("1.2:c5", 5);
        dueFault("1.2:0c", 5);
    }

    private void hoursOfAText() {
        s.of("TEXTS", "then perhaps \"*\" and hours (1 to 99;");
        for (int hours = 1; hours <= 99; hours++) {
            dueHours("1.2:c*" + hours, hours);
            dueHours("1.2:15@99*" + hours, hours);
        }
        dueFault("1.2:c*0", 6);
        dueFault("1.2:c*100", 8);
        dueFault("1.2:c*999", 8);
        dueFault("1.2:3@5*0", 8);
        dueFault("1.2:3@55*100", 11);
        dueFault("1.2:c**5", 6);
        dueFault("1.2:c*5*5", 7);
        dueFault("1.2:c*c", 6);
        dueFault("1.2:c*-1", 6);
        dueFault("1.2:c*;1.2:c", 6);
        dueFault("1.2:cx5", 5);
        dueFault("1.2:3@5x5", 7);
    }

    private void hoursLeftOut() {
        s.of("TEXTS", "1 if it is left out).");
        dueHours("1.2:c", 1);
        dueHours("1.2:3@5", 1);
        dueHours("1.2:c*9;1.2:c", 10);
        dueHours("1.2:3@5*9;1.2:3@5;1.2:c*2", 12);
    }

    private void zeroInFront() {
        s.of("TEXTS", "Numbers have no zero in front, unless they are the single digit 0;");
        dueHours("0.0:0@1", 1);
        dueFault("00.0:c", 1);
        dueFault("01.0:c", 1);
        dueFault("0.00:c", 3);
        dueFault("0.01:c", 3);
        dueFault("0.0:00@1", 5);
        dueFault("0.0:01@1", 5);
        dueFault("0.0:09@1", 5);
        dueFault("0.0:1@01", 6);
        dueFault("0.0:1@00", 6);
        dueFault("0.0:c*01", 6);
        dueFault("0.0:c*00", 6);
        dueHours("0.0:10@10*10", 10);
    }

    private void digitTooMany() {
        s.of("TEXTS", "a digit by which a number would be greater than told is not allowed.");
        dueFault("4.0:c", 0);
        dueFault("9.0:c", 0);
        dueFault("10.0:c", 1);
        dueFault("33.0:c", 1);
        dueFault("3.4:c", 2);
        dueFault("3.30:c", 3);
        dueFault("3.3:16@1", 5);
        dueFault("3.3:19@1", 5);
        dueFault("3.3:20@1", 5);
        dueFault("3.3:90@1", 5);
        dueFault("3.3:151@1", 6);
        dueFault("3.3:15@991", 9);
        dueFault("3.3:15@99*991", 12);
        dueFault("3.3:c*100", 8);
        dueHours("3.3:15@99*99", 99);
    }

    private void characterNotAllowed() {
        s.of("TEXTS", "The fault of the text is the index, from 0, of the first character that is not allowed at its place");
        String whole = "1.2:13@45*67;0.3:c*8";
        dueHours(whole, 75);
        char[] never = {'x', ' ', '-', 'C', '\n', '\0', '\u00e9', '\u0660', '\uff10', '\u012a', '\uffff', '/', '[', '?'};
        for (int place = 0; place < whole.length(); place++) {
            for (char sign : never) {
                dueFault(whole.substring(0, place) + sign + whole.substring(place + 1), place);
                dueFault(whole.substring(0, place) + sign + whole.substring(place), place);
            }
        }
        for (char sign : never) {
            dueFault(whole + sign, whole.length());
            dueFault(whole + sign + "4", whole.length());
        }
        dueFault("0.0:x;4.0:c", 4);
        dueFault("0.0:c;0.0:x;4.0:c", 10);
    }

    private void textTooShort() {
        s.of("TEXTS", "or the length of the text if it ends too early");
        String whole = "1.2:13@45*67;0.3:c*8";
        for (int length = 0; length < whole.length(); length++) {
            boolean isLog = length == 8 || length == 9 || length == 11 || length == 12 || length == 18;
            String text = whole.substring(0, length);
            s.due("logAll of " + text, Desks.logAll(text) > 0 ? 1 : 0, isLog ? 1 : 0);
            if (!isLog) {
                dueFault(text, length);
            }
        }
        String calms = "0.0:c;".repeat(13);
        dueFault(calms, 78);
        dueFault(calms + "0", 79);
        dueFault(calms + "0.", 80);
        dueFault("0.0:c;".repeat(12) + "0.0:c*", 78);
        dueFault("0.0:c;".repeat(12) + "0.0:15@", 79);
        dueFault("0.0:9@9;".repeat(9) + "0.0:9@9*", 80);
    }

    private void emptyText() {
        s.of("TEXTS", "(the empty text does).");
        s.due("at first", new WindRoses().logAll(), -100);
        WindRoses desk = Desks.withText("0.0:c");
        desk.clearText();
        s.due("after clearText", desk.logAll(), -100);
        s.due("no hours", desk.count(0), 0);
    }

    // ---- Promise 9

    private void promise9() {
        s.of("Promise 9", "Types a character behind the text.");
        WindRoses desk = Desks.withText("0.1:c*1");
        s.due("first", desk.logAll(), 1);
        desk.type('2');
        s.due("then", desk.logAll(), 12);
        s.due("it is no act", desk.count(9), 2);

        s.of("Promise 9", "`character`: any character");
        WindRoses any = new WindRoses();
        for (int i = 0; i < 80; i++) {
            s.due("a character", any.type((char) (i * 829)), i + 1);
        }
        s.due("none of them begins a log", any.logAll(), -100);
        s.due("the last of all", new WindRoses().type('\uffff'), 1);
        s.due("the first of all", new WindRoses().type('\0'), 1);

        s.of("Promise 9", "Returns the length of the text then");
        WindRoses counted = new WindRoses();
        for (int i = 1; i <= 80; i++) {
            s.due("type", counted.type('c'), i);
            s.due("length", counted.count(10), i);
        }

        s.of("Promise 9", "FULL if it has 80 characters.");
        s.due("80", counted.type('c'), -3);
        s.due("80 still", counted.type('d'), -3);
        s.due("length", counted.count(10), 80);
        counted.clearText();
        s.due("emptied", counted.type('c'), 1);
        WindRoses last = Desks.withText("x".repeat(79));
        s.due("79", last.type('x'), 80);
        s.due("80", last.type('x'), -3);
    }

    // ---- Promise 10

    private void promise10() {
        s.of("Promise 10", "Empties the text.");
        WindRoses desk = Desks.withText("0.0:c*9");
        desk.clearText();
        s.due("length", desk.count(10), 0);
        Checks.write(desk, "3.3:c");
        s.due("another text", desk.logAll(), 1);
        s.due("of another log", desk.rose(3, 3, 0), 1);
        s.due("nothing of the old one", desk.rose(0, 0, 0), 0);
        desk.clearText();
        s.due("it is no act", desk.count(9), 1);

        s.of("Promise 10", "Returns the length that it had.");
        s.due("0, not NONE", new WindRoses().clearText(), 0);
        s.due("1", Desks.withText("x").clearText(), 1);
        s.due("79", Desks.withText("x".repeat(79)).clearText(), 79);
        s.due("80", Desks.withText("x".repeat(80)).clearText(), 80);
        s.due("80 of 81 typed", Desks.withText("x".repeat(81)).clearText(), 80);
        WindRoses twice = Desks.withText("xyz");
        s.due("3", twice.clearText(), 3);
        s.due("then 0", twice.clearText(), 0);
    }

    // ---- Promise 11

    private void promise11() {
        s.of("Promise 11", "Logs all hours of the text, which stays;");
        WindRoses desk = Desks.withText("0.0:0@1*5;1.1:c*6;2.2:15@99");
        desk.logAll();
        s.due("windy ones", desk.strike(0, 0, 0, 1), 5);
        s.due("calm ones", desk.rose(1, 1, 2), 6);
        s.due("the last ones", desk.strike(2, 2, 15, 99), 1);
        s.due("length of the text", desk.count(10), 27);
        s.due("once more", desk.logAll(), 12);
        s.due("calm ones then", desk.rose(1, 1, 2), 12);

        s.of("Promise 11", "all of them, or none.");
        WindRoses fault = Desks.withText("0.0:0@1*5;1.1:c*6;2.2:15@99;4");
        s.due("a fault at the end", fault.logAll(), -128);
        s.due("none of them", fault.count(0), 0);
        WindRoses full = Desks.withCalm(2, 2, 9999);
        Checks.write(full, "0.0:0@1*5;1.1:c*6;2.2:15@99");
        s.due("a full log at the end", full.logAll(), -3);
        s.due("none of them", full.count(0), 9999);
        Checks.write(full, "2.2:c;0.0:0@1*5");
        s.due("a full log at the beginning", full.logAll(), -3);
        s.due("none of them", full.count(0), 9999);

        s.of("Promise 11", "This is one act.");
        HistoryBoundaries.lookAtAct(s, Desks.withText("0.0:0@1*5;1.1:c*6;0.0:c"), WindRoses::logAll);

        s.of("Promise 11", "Returns how many hours");
        dueHours("0.0:c", 1);
        dueHours("0.0:c*99", 99);
        dueHours("0.0:c*99;0.0:c*99;0.0:1@1*99;0.0:c*99;0.0:c*99;1.1:c*99;2.2:c*99;3.3:c*99", 792);
        promise11Errors();
    }

    private void promise11Errors() {
        s.of("Promise 11", "-100 minus the fault of the text if it has one (which is an error)");
        s.due("at 0", Desks.logAll("x"), -100);
        s.due("at 1", Desks.logAll("0x"), -101);
        s.due("at 80", Desks.logAll("0.0:c;".repeat(13) + "0."), -180);
        s.due("at 79", Desks.logAll("0.0:c;".repeat(13) + "0x"), -179);
        WindRoses desk = Desks.withText("0.0:c;x");
        s.due("fault", desk.logAll(), -106);
        s.due("no state is recorded", desk.count(9), 0);
        s.due("the text stays", desk.count(10), 7);
        WindRoses full = Desks.withCalm(0, 0, 9999);
        Checks.write(full, "0.0:c;");
        s.due("ahead of FULL", full.logAll(), -106);

        s.of("Promise 11", "FULL if a log would have more than 9999.");
        for (int rose = 0; rose < 16; rose++) {
            int port = rose / 4;
            int season = rose % 4;
            WindRoses one = Desks.withCalm(port, season, 9900);
            Checks.write(one, port + "." + season + ":c*99");
            s.due("99 beside 9900", one.logAll(), 99);
            s.due("99 beside 9999", one.logAll(), -3);
            int other = (rose + 1) % 16;
            Checks.write(one, other / 4 + "." + other % 4 + ":5@5*99");
            s.due("another log", one.logAll(), 99);
        }
        WindRoses beside = Desks.withWind(3, 3, 15, 99, 9999);
        beside.log(0, 0, 0, 1, 1);
        Desks.log(beside, 0, 0, 0, 0, 9998);
        beside.engrave(0, 0);
        Checks.write(beside, "1.1:c");
        s.due("beside full logs that are not of the text", beside.logAll(), 1);
        WindRoses sum = Desks.withWind(3, 0, 7, 7, 9900);
        Checks.write(sum, "3.0:c*50;0.0:c;3.0:2@2*50");
        s.due("together too many", sum.logAll(), -3);
        s.due("hours stay", sum.rose(3, 0, 0), 9900);
        s.due("hours stay", sum.rose(0, 0, 0), 0);
        Checks.write(sum, "3.0:c*50;0.0:c;3.0:2@2*49");
        s.due("together just enough", sum.logAll(), 100);
        s.due("full then", sum.rose(3, 0, 0), 9999);
    }
}
