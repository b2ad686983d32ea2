/** Promises 15 to 22: rose, hours, share, dealt, quarter, excess, unlike, seasonOf. */
public final class TellsTest {
    private static final Checks checks = new Checks();

    private static void due(String call, long got, long want) {
        checks.due(call, got, want);
    }

    public static void main(String[] args) {
        rose();
        hours();
        shares();
        likeRemainders();
        missingForTheFirstPart();
        dealtAlone();
        sharesWithout();
        quarter();
        excess();
        unlike();
        seasonOf();
        wrongArguments();
        checks.end("TellsTest");
    }

    private static void rose() {
        WindRoses desk = new WindRoses();
        desk.log(1, 2, 9, 10, 4);
        desk.log(1, 2, 9, 40, 1);
        desk.log(1, 2, 3, 20, 5);
        desk.log(1, 2, 3, 99, 1);
        desk.strike(1, 2, 3, 99);
        desk.calm(1, 2, 5);
        int[] want = {15, 10, 5, 33, 40, 18, 4, 5, 1, 3};
        for (int what = 0; what < want.length; what++) {
            due("15: rose(1, 2, " + what + ")", desk.rose(1, 2, what), want[what]);
        }
        due("15: one more", desk.log(1, 2, 9, 1, 1), 16);
        due("15: the most then", desk.rose(1, 2, 9), 9);
        due("15: mean is rounded down", desk.rose(1, 2, 5), 16);
        desk.calm(0, 0, 9);
        due("15: and more of speed 1", desk.log(1, 2, 9, 1, 7), 23);
        due("15: mean with speed 1", desk.rose(1, 2, 5), 10);
        int[] calm = {9, 0, 9, 100, -5, -5, 0, 0, 0, -5};
        for (int what = 0; what < calm.length; what++) {
            due("15: rose(0, 0, " + what + ")", desk.rose(0, 0, what), calm[what]);
        }
        desk.log(3, 3, 15, 99, 1);
        due("15: direction 15", desk.rose(3, 3, 9), 15);
        desk.log(3, 2, 0, 99, 1);
        desk.log(3, 2, 1, 99, 1);
        due("15: direction 0 of two", desk.rose(3, 2, 9), 0);
        due("15: speed 99", desk.rose(3, 3, 4), 99);
        due("15: mean 99", desk.rose(3, 3, 5), 99);
        desk.log(2, 0, 0, 1, 1);
        due("15: speed 1", desk.rose(2, 0, 4), 1);
    }

    private static void hours() {
        WindRoses desk = new WindRoses();
        desk.log(0, 3, 7, 3, 1);
        desk.log(0, 3, 7, 4, 2);
        desk.log(0, 3, 7, 13, 4);
        desk.log(0, 3, 7, 99, 8);
        desk.log(0, 3, 8, 3, 16);
        desk.calm(0, 3, 32);
        due("16: class 0", desk.hours(0, 3, 7, 0), 3);
        due("16: class 1", desk.hours(0, 3, 7, 1), 4);
        due("16: class 2", desk.hours(0, 3, 7, 2), 8);
        due("16: all", desk.hours(0, 3, 7, 3), 15);
        due("16: next direction", desk.hours(0, 3, 8, 3), 16);
        due("16: before it", desk.hours(0, 3, 6, 3), 0);
    }

    private static void bothShares(WindRoses desk, int direction, int kind, int want) {
        due("17: share " + direction + " " + kind, desk.share(0, 0, direction, kind), want);
        due("18: dealt " + direction + " " + kind, desk.dealt(0, 0, direction, kind), want);
    }

    private static void shares() {
        WindRoses desk = new WindRoses();
        desk.log(0, 0, 0, 5, 1);
        desk.log(0, 0, 5, 15, 2);
        desk.log(0, 0, 15, 40, 4);
        desk.calm(0, 0, 50);
        // Of seven: 14 2/7, 28 4/7, 57 1/7; one is missing.
        bothShares(desk, 0, 0, 14);
        bothShares(desk, 5, 1, 29);
        bothShares(desk, 15, 2, 57);
        bothShares(desk, 5, 0, 0);
        desk.log(0, 0, 15, 40, 4);
        // Of eleven: 9 1/11, 18 2/11, 72 8/11.
        bothShares(desk, 0, 0, 9);
        bothShares(desk, 5, 1, 18);
        bothShares(desk, 15, 2, 73);
    }

    private static void likeRemainders() {
        WindRoses desk = new WindRoses();
        for (int direction = 15; direction >= 1; direction--) {
            desk.log(0, 0, direction, 40, 1);
        }
        // Of fifteen each has 6 10/15; ten are missing.
        for (int direction = 1; direction < 16; direction++) {
            bothShares(desk, direction, 2, direction <= 10 ? 7 : 6);
        }
        due("17: none without hours", desk.share(0, 0, 0, 2), 0);
        WindRoses other = new WindRoses();
        other.log(0, 0, 9, 40, 1);
        other.log(0, 0, 9, 20, 1);
        other.log(0, 0, 9, 1, 1);
        bothShares(other, 9, 0, 34);
        bothShares(other, 9, 1, 33);
        bothShares(other, 9, 2, 33);
        other.log(0, 0, 8, 99, 3);
        // Of six: 16 4/6 three times, 50; two are missing.
        bothShares(other, 8, 2, 50);
        bothShares(other, 9, 0, 17);
        bothShares(other, 9, 1, 17);
        bothShares(other, 9, 2, 16);
    }

    private static void missingForTheFirstPart() {
        WindRoses desk = new WindRoses();
        desk.log(0, 0, 0, 5, 2);
        desk.log(0, 0, 6, 5, 1);
        // Of three: 66 2/3 and 33 1/3.
        bothShares(desk, 0, 0, 67);
        bothShares(desk, 6, 0, 33);
        desk.log(0, 0, 0, 15, 4);
        // Of seven: 28 4/7, 57 1/7 and 14 2/7.
        bothShares(desk, 0, 0, 29);
        bothShares(desk, 0, 1, 57);
        bothShares(desk, 6, 0, 14);
        desk.log(0, 0, 15, 99, 6);
        // Of thirteen: 15 5/13, 30 10/13, 7 9/13 and 46 2/13; two are missing.
        bothShares(desk, 0, 0, 15);
        bothShares(desk, 0, 1, 31);
        bothShares(desk, 6, 0, 8);
        bothShares(desk, 15, 2, 46);
    }

    private static void dealtAlone() {
        WindRoses desk = new WindRoses();
        desk.log(0, 0, 0, 5, 1);
        desk.log(0, 0, 0, 15, 1);
        desk.log(0, 0, 0, 40, 1);
        due("18: before any share", desk.dealt(0, 0, 0, 0), 34);
        due("17: another log", desk.share(0, 1, 0, 1), 0);
        due("18: after another log", desk.dealt(0, 0, 0, 1), 33);
        due("18: another log", desk.dealt(0, 1, 0, 0), 0);
        due("18: after another log", desk.dealt(0, 0, 0, 2), 33);
    }

    private static void sharesWithout() {
        WindRoses desk = new WindRoses();
        bothShares(desk, 0, 0, 0);
        desk.calm(0, 0, 1);
        bothShares(desk, 0, 0, 0);
        desk.log(0, 0, 0, 1, 1);
        bothShares(desk, 0, 0, 100);
        desk.strike(0, 0, 0, 1);
        bothShares(desk, 0, 0, 0);
    }

    private static void quarter() {
        WindRoses desk = new WindRoses();
        for (int direction = 0; direction < 16; direction++) {
            desk.log(2, 2, direction, 50, direction * direction % 17 + 1);
        }
        int[] hours = new int[16];
        for (int direction = 0; direction < 16; direction++) {
            hours[direction] = direction * direction % 17 + 1;
        }
        for (int quarter = 0; quarter < 4; quarter++) {
            int midst = quarter * 4;
            int want = hours[midst] + hours[midst + 1] + hours[(midst + 15) % 16]
                + (hours[midst + 2] + hours[(midst + 14) % 16]) / 2;
            due("19: quarter " + quarter, desk.quarter(2, 2, quarter), want);
        }
        WindRoses half = new WindRoses();
        half.log(0, 0, 2, 1, 1);
        due("19: half of one", half.quarter(0, 0, 0), 0);
        due("19: half of one", half.quarter(0, 0, 1), 0);
        half.log(0, 0, 14, 1, 2);
        due("19: half of three", half.quarter(0, 0, 0), 1);
        due("19: half of two", half.quarter(0, 0, 3), 1);
        half.log(0, 0, 15, 60, 4);
        due("19: its neighbour", half.quarter(0, 0, 0), 5);
        due("19: not of this one", half.quarter(0, 0, 3), 1);
        half.calm(0, 0, 9);
        due("19: calm ones not", half.quarter(0, 0, 0), 5);
    }

    private static void excess() {
        WindRoses desk = new WindRoses();
        desk.log(0, 0, 3, 5, 4);
        desk.log(0, 0, 3, 50, 4);
        desk.log(0, 0, 11, 20, 3);
        due("20: more", desk.excess(0, 0, 3), 5);
        due("20: fewer", desk.excess(0, 0, 11), 0);
        due("20: neither", desk.excess(0, 0, 4), 0);
        desk.log(0, 0, 15, 5, 1);
        due("20: 15 and 7", desk.excess(0, 0, 15), 1);
        due("20: 7 and 15", desk.excess(0, 0, 7), 0);
        desk.log(0, 0, 11, 1, 5);
        due("20: as many", desk.excess(0, 0, 3), 0);
    }

    private static void unlike() {
        WindRoses desk = new WindRoses();
        due("21: both empty", desk.unlike(0, 3, 1), 0);
        desk.log(0, 1, 2, 5, 10);
        due("21: one empty", desk.unlike(0, 3, 1), 100);
        desk.log(3, 1, 2, 5, 3);
        due("21: alike", desk.unlike(0, 3, 1), 0);
        desk.log(3, 1, 2, 50, 1);
        due("21: a quarter", desk.unlike(0, 3, 1), 50);
        due("21: the other way", desk.unlike(3, 0, 1), 50);
        due("21: another season", desk.unlike(3, 0, 2), 0);
        desk.calm(3, 1, 9);
        due("21: calm ones not", desk.unlike(3, 0, 1), 50);
        desk.turn(3, 1, 4);
        due("21: turned", desk.unlike(3, 0, 1), 200);
        desk.log(0, 2, 0, 1, 2);
        desk.log(1, 2, 15, 99, 2);
        due("21: the first part and the last", desk.unlike(0, 1, 2), 200);
        due("21: the same", desk.unlike(2, 2, 0), -2);
        due("21: UNKNOWN first", desk.unlike(4, 4, 0), -1);
        due("21: UNKNOWN first", desk.unlike(2, 2, 4), -1);
        due("21: other", desk.unlike(2, -1, 0), -1);
    }

    private static void seasonOf() {
        WindRoses desk = new WindRoses();
        desk.calm(1, 0, 9);
        due("22: none", desk.seasonOf(1, 0), -5);
        desk.log(1, 3, 4, 5, 2);
        due("22: the only one", desk.seasonOf(1, 0), 3);
        desk.log(1, 1, 4, 6, 1);
        desk.log(1, 1, 9, 7, 1);
        due("22: the lowest", desk.seasonOf(1, 0), 1);
        desk.log(1, 2, 0, 11, 3);
        due("22: the most", desk.seasonOf(1, 0), 2);
        due("22: another class", desk.seasonOf(1, 1), -5);
        desk.log(1, 0, 15, 99, 1);
        due("22: class 2", desk.seasonOf(1, 2), 0);
        due("22: another port", desk.seasonOf(0, 0), -5);
        due("22: another port", desk.seasonOf(0, 2), -5);
        desk.log(3, 3, 0, 50, 2);
        due("22: the last season of the last port", desk.seasonOf(3, 2), 3);
        due("22: a port between", desk.seasonOf(2, 2), -5);
        desk.set(0, 6);
        due("22: classes by bounds", desk.seasonOf(1, 1), 2);
        due("22: classes by bounds", desk.seasonOf(1, 0), 3);
    }

    private static void wrongArguments() {
        WindRoses desk = new WindRoses();
        int[] outside = {-1, 4, Integer.MIN_VALUE, Integer.MAX_VALUE};
        for (int wrong : outside) {
            due("15: port", desk.rose(wrong, 0, 10), -1);
            due("15: season", desk.rose(0, wrong, 0), -1);
            due("16: port", desk.hours(wrong, 0, 0, 0), -1);
            due("16: season", desk.hours(0, wrong, 0, 0), -1);
            due("16: class", desk.hours(0, 0, 0, wrong), -1);
            due("17: port", desk.share(wrong, 0, 0, 0), -1);
            due("17: season", desk.share(0, wrong, 0, 0), -1);
            due("18: port", desk.dealt(wrong, 0, 0, 0), -1);
            due("18: season", desk.dealt(0, wrong, 0, 0), -1);
            due("19: port", desk.quarter(wrong, 0, 0), -1);
            due("19: season", desk.quarter(0, wrong, 0), -1);
            due("19: quarter", desk.quarter(0, 0, wrong), -1);
            due("20: port", desk.excess(wrong, 0, 0), -1);
            due("20: season", desk.excess(0, wrong, 0), -1);
            due("21: port", desk.unlike(wrong, 0, 0), -1);
            due("21: other", desk.unlike(0, wrong, 0), -1);
            due("21: season", desk.unlike(0, 1, wrong), -1);
            due("22: port", desk.seasonOf(wrong, 0), -1);
        }
        int[] noClass = {-1, 3, Integer.MIN_VALUE, Integer.MAX_VALUE};
        for (int wrong : noClass) {
            due("17: class", desk.share(0, 0, 0, wrong), -1);
            due("18: class", desk.dealt(0, 0, 0, wrong), -1);
            due("22: class", desk.seasonOf(0, wrong), -1);
        }
        int[] noDirection = {-1, 16, Integer.MIN_VALUE, Integer.MAX_VALUE};
        for (int wrong : noDirection) {
            due("16: direction", desk.hours(0, 0, wrong, 3), -1);
            due("17: direction", desk.share(0, 0, wrong, 0), -1);
            due("18: direction", desk.dealt(0, 0, wrong, 0), -1);
            due("20: direction", desk.excess(0, 0, wrong), -1);
        }
        due("15: what 10", desk.rose(0, 0, 10), -2);
        due("15: what -1", desk.rose(0, 0, -1), -2);
        due("15: what greatest", desk.rose(0, 0, Integer.MAX_VALUE), -2);
    }
}
