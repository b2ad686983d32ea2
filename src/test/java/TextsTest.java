/** Promises 9 to 11: type, clearText, logAll. */
public final class TextsTest {
    private static final Checks checks = new Checks();

    private static void due(String call, long got, long want) {
        checks.due(call, got, want);
    }

    public static void main(String[] args) {
        typeAndClear();
        wellFormed();
        faults();
        textsThatEndTooEarly();
        longestTexts();
        allOrNone();
        room();
        oneAct();
        checks.end("TextsTest");
    }

    private static void typeAndClear() {
        WindRoses desk = new WindRoses();
        for (int i = 1; i <= 80; i++) {
            due("9: type", desk.type((char) (i * 800)), i);
        }
        due("9: full", desk.type('0'), -3);
        due("9: full still", desk.count(10), 80);
        due("9: no act", desk.count(9), 0);
        due("10: clear", desk.clearText(), 80);
        due("10: clear again", desk.clearText(), 0);
        due("10: no act", desk.count(9), 0);
        due("9: type again", desk.type('0'), 1);
        due("11: the old text is gone", desk.logAll(), -101);
    }

    private static void wellFormed() {
        WindRoses desk = new WindRoses();
        due("11: shortest", checks.writeAndLog(desk, "0.0:c"), 1);
        due("11: calm", desk.rose(0, 0, 2), 1);
        due("11: wind", checks.writeAndLog(desk, "3.2:0@1"), 1);
        due("11: wind", desk.hours(3, 2, 0, 0), 1);
        due("11: two digits", checks.writeAndLog(desk, "1.3:15@99*99"), 99);
        due("11: two digits", desk.hours(1, 3, 15, 2), 99);
        due("11: edges of numbers", checks.writeAndLog(desk, "0.1:10@10*10"), 10);
        due("11: edges of numbers", desk.strike(0, 1, 10, 10), 10);
        due("11: one digit each", checks.writeAndLog(desk, "2.2:9@9*9"), 9);
        due("11: one digit each", desk.strike(2, 2, 9, 9), 9);
        due("11: the least told", checks.writeAndLog(desk, "2.1:0@1*1;2.1:c*1"), 2);
        due("11: the least told", desk.rose(2, 1, 1), 1);
        due("11: calm with hours", checks.writeAndLog(desk, "2.0:c*25;2.0:c"), 26);
        due("11: several", checks.writeAndLog(desk, "0.0:1@1;0.0:1@1*3;1.1:c*2"), 6);
        due("11: like ones add up", desk.strike(0, 0, 1, 1), 4);
        due("11: the text stays", desk.count(10), 25);
        due("11: logged again", desk.logAll(), 6);
        due("11: logged again", desk.rose(1, 1, 2), 4);
    }

    private static void faultAt(int place, String text) {
        WindRoses desk = new WindRoses();
        due("11: " + text, checks.writeAndLog(desk, text), -100 - place);
        due("11: nothing is changed", desk.count(0), 0);
        due("11: no record", desk.count(9), 0);
        due("11: the text stays", desk.count(10), text.length());
    }

    private static void faults() {
        faultAt(0, "4.0:c");
        faultAt(0, " 0.0:c");
        faultAt(0, ";");
        faultAt(0, "c");
        faultAt(1, "00.0:c");
        faultAt(1, "10.0:c");
        faultAt(1, "0,0:c");
        faultAt(2, "0.4:c");
        faultAt(2, "0.:c");
        faultAt(3, "0.00:c");
        faultAt(3, "0.0.c");
        faultAt(4, "0.0:C");
        faultAt(4, "0.0:@5");
        faultAt(4, "0.0:*5");
        faultAt(5, "0.0:00@5");
        faultAt(5, "0.0:05@5");
        faultAt(5, "0.0:16@5");
        faultAt(5, "0.0:20@5");
        faultAt(6, "0.0:100@5");
        faultAt(6, "0.0:155@5");
        faultAt(5, "0.0:5*5");
        faultAt(5, "0.0:5;");
        faultAt(6, "0.0:5@0");
        faultAt(6, "0.0:5@c");
        faultAt(6, "0.0:5@;");
        faultAt(8, "0.0:5@100");
        faultAt(8, "0.0:5@10:");
        faultAt(7, "0.0:5@5@5");
        faultAt(7, "0.0:5@5 ");
        faultAt(8, "0.0:5@5*0");
        faultAt(8, "0.0:5@5*;");
        faultAt(10, "0.0:5@5*100");
        faultAt(9, "0.0:5@5*5*5");
        faultAt(5, "0.0:cc");
        faultAt(5, "0.0:c5");
        faultAt(6, "0.0:c*0");
        faultAt(8, "0.0:c*999");
        faultAt(6, "0.0:c;;");
        faultAt(6, "0.0:c;4.0:c");
        faultAt(10, "0.0:c;1.1:x");
        faultAt(0, "\u0660.0:c");
        faultAt(0, "\u01300.0:c");
        faultAt(5, "0.0:c\u012a");
        faultAt(5, "0.0:c\u0000");
    }

    private static void textsThatEndTooEarly() {
        String whole = "0.1:2@3*4;";
        int[] wellFormed = {7, 9};
        for (int length = 0; length <= whole.length(); length++) {
            if (length != wellFormed[0] && length != wellFormed[1]) {
                faultAt(length, whole.substring(0, length));
            }
        }
        faultAt(6, "0.0:c*");
        faultAt(6, "0.0:c;");
        faultAt(6, "0.0:15");
    }

    private static void longestTexts() {
        StringBuilder calms = new StringBuilder("0.0:c");
        for (int i = 1; i < 13; i++) {
            calms.append(";0.0:c");
        }
        WindRoses desk = new WindRoses();
        due("11: 13 entries", checks.writeAndLog(desk, calms.toString()), 13);
        due("11: 13 entries", checks.writeAndLog(desk, calms + "*99"), 111);
        due("27: 80 characters", desk.count(10), 80);
        due("11: as many calm hours", desk.rose(0, 0, 2), 124);
        faultAt(78, calms + ";");
        faultAt(79, calms + ";0");
        faultAt(80, calms + ";0.");
        faultAt(79, calms + ";0;");
        due("11: no wind is left of them", checks.writeAndLog(desk, "1.0:5@5"), 1);
    }

    private static void allOrNone() {
        WindRoses desk = new WindRoses();
        due("11: a fault behind", checks.writeAndLog(desk, "0.0:c;1.1:5@5;2.2:x"), -118);
        due("11: none of them", desk.count(0), 0);
        for (int i = 0; i < 101; i++) {
            desk.calm(1, 1, 99);
        }
        due("11: a full log behind", checks.writeAndLog(desk, "0.0:c;1.1:5@5"), -3);
        due("11: none of them", desk.rose(0, 0, 0), 0);
        due("11: the fault before FULL", checks.writeAndLog(desk, "1.1:c;"), -106);
    }

    private static void room() {
        WindRoses desk = new WindRoses();
        for (int i = 0; i < 100; i++) {
            desk.log(3, 0, 7, 7, 99);
        }
        due("11: together too many", checks.writeAndLog(desk, "3.0:c*50;0.0:c;3.0:2@2*50"), -3);
        due("11: no record", desk.count(9), 4);
        due("11: together just enough", checks.writeAndLog(desk, "3.0:c*50;3.0:2@2*49;0.3:c"), 100);
        due("11: full then", desk.rose(3, 0, 0), 9999);
        due("11: full", desk.logAll(), -3);
        due("11: another log", checks.writeAndLog(desk, "0.3:c*99"), 99);
        roomOf(0, 0);
        roomOf(3, 3);
        roomBesideFull();
    }

    private static void roomBesideFull() {
        WindRoses desk = new WindRoses();
        for (int i = 0; i < 100; i++) {
            desk.calm(0, 0, 99);
        }
        desk.calm(0, 0, 98);
        desk.log(0, 0, 0, 1, 1);
        desk.engrave(0, 0);
        due("11: beside a log and a plate that are full", checks.writeAndLog(desk, "1.1:c"), 1);
    }

    private static void roomOf(int port, int season) {
        WindRoses desk = new WindRoses();
        for (int i = 0; i < 101; i++) {
            desk.calm(port, season, 99);
        }
        due("11: full", checks.writeAndLog(desk, "1.2:c;" + port + "." + season + ":c"), -3);
        due("11: none of them", desk.rose(1, 2, 0), 0);
    }

    private static void oneAct() {
        WindRoses desk = new WindRoses();
        checks.writeAndLog(desk, "0.0:c;1.1:5@5*3;0.0:c*2");
        due("11: one record", desk.count(9), 1);
        due("12: undone at once", desk.undo(), 0);
        due("12: all of them", desk.count(0), 0);
        due("12: the text stays", desk.count(10), 23);
    }
}
