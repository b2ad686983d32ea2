import java.util.Random;

/** Runs of random calls, with always the same seeds, on the program and on the reference side by side. */
public final class RandomRunsTest {
    private static final int RUNS = 800;
    /** Nothing is promised of an object beyond these. */
    private static final int CALLS = 512;
    /** What a text of fourteen logs may need, and what the look at the end needs. */
    private static final int CALLS_OF_A_TEXT = 190;
    private static final int CALLS_AT_THE_END = 12 + 3 * 19;

    private final Checks checks;
    private final Random random;
    private final WindRoses desk = new WindRoses();
    private final Reference reference = new Reference();
    /** How many ports and seasons, directions and speeds a run keeps to: few of them meet more often. */
    private final int roses;
    private final int directions;
    private final int speeds;
    private final boolean muchWrong;
    private final boolean manyHours;
    private int calls = 0;

    private RandomRunsTest(Checks made, int seed) {
        checks = made;
        random = new Random(seed);
        roses = 1 + random.nextInt(4);
        directions = 1 + random.nextInt(16);
        speeds = random.nextBoolean() ? 99 : 1 + random.nextInt(50);
        muchWrong = random.nextInt(4) == 0;
        manyHours = random.nextInt(8) == 0;
    }

    public static void main(String[] args) {
        Checks checks = new Checks();
        for (int seed = 1; seed <= RUNS; seed++) {
            RandomRunsTest run = new RandomRunsTest(checks, seed);
            while (run.calls + 3 <= CALLS - CALLS_AT_THE_END) {
                run.one("run " + seed + ", call " + run.calls + ": ");
            }
            run.lookAtTheEnd("run " + seed + ", at its end: ");
            checks.due("calls of run " + seed, run.calls <= CALLS ? 1 : 0, 1);
        }
        checks.end("RandomRunsTest");
    }

    private int wrongOr(int right) {
        if (random.nextInt(muchWrong ? 12 : 150) != 0) {
            return right;
        }
        int[] wrong = {-1, 3, 4, 10, 15, 16, 99, 100, Integer.MIN_VALUE, Integer.MAX_VALUE};
        return wrong[random.nextInt(wrong.length)];
    }

    private int port() {
        return wrongOr(random.nextInt(roses));
    }

    private int season() {
        return wrongOr(3 - random.nextInt(roses));
    }

    private int direction() {
        return wrongOr(random.nextInt(directions));
    }

    private int speed() {
        return wrongOr(1 + random.nextInt(speeds));
    }

    private int someHours() {
        return wrongOr(manyHours ? 99 - random.nextInt(2) : 1 + random.nextInt(random.nextBoolean() ? 4 : 99));
    }

    private void due(String call, int got, int want) {
        calls++;
        checks.due(call, got, want);
    }

    private void one(String at) {
        int choice = random.nextInt(100);
        if (manyHours && choice >= 50) {
            choice = choice % 12;
        }
        if (choice < 45) {
            oneLogCall(at, choice);
        } else if (choice < 62) {
            onePlateCall(at, choice);
        } else if (choice < 65) {
            oneText(at);
        } else if (choice < 74) {
            oneHistoryCall(at, choice);
        } else {
            oneLook(at);
        }
    }

    private void oneLogCall(String at, int choice) {
        int port = port();
        int season = season();
        if (choice < 22) {
            int direction = direction();
            int speed = speed();
            int hours = someHours();
            due(at + "log", desk.log(port, season, direction, speed, hours),
                reference.log(port, season, direction, speed, hours));
        } else if (choice < 28) {
            int hours = someHours();
            due(at + "calm", desk.calm(port, season, hours), reference.calm(port, season, hours));
        } else if (choice < 34) {
            int direction = direction();
            int speed = speed();
            due(at + "strike", desk.strike(port, season, direction, speed),
                reference.strike(port, season, direction, speed));
        } else if (choice < 39) {
            int by = wrongOr(1 + random.nextInt(15));
            due(at + "turn", desk.turn(port, season, by), reference.turn(port, season, by));
        } else {
            int which = wrongOr(random.nextInt(3));
            int value = wrongOr(which == 2 ? random.nextInt(10) : 1 + random.nextInt(99));
            due(at + "set", desk.set(which, value), reference.set(which, value));
        }
    }

    private void onePlateCall(String at, int choice) {
        int port = port();
        int season = season();
        if (choice < 59) {
            due(at + "engrave", desk.engrave(port, season), reference.engrave(port, season));
        } else {
            due(at + "renew", desk.renew(port, season), reference.renew(port, season));
        }
    }

    private String someText() {
        StringBuilder text = new StringBuilder();
        for (int left = random.nextInt(14); left >= 0; left--) {
            text.append(random.nextInt(roses)).append('.').append(3 - random.nextInt(roses)).append(':');
            if (random.nextInt(4) == 0) {
                text.append('c');
            } else {
                text.append(random.nextInt(directions)).append('@').append(1 + random.nextInt(speeds));
            }
            if (random.nextBoolean()) {
                text.append('*').append(1 + random.nextInt(99));
            }
            text.append(left > 0 ? ";" : "");
        }
        for (int flaws = random.nextInt(3) - 1; flaws > 0; flaws--) {
            String signs = "0123456789.:@c*; xC";
            char sign = signs.charAt(random.nextInt(signs.length()));
            int place = random.nextInt(text.length());
            if (random.nextBoolean()) {
                text.insert(place, sign);
            } else {
                text.setCharAt(place, sign);
            }
        }
        return random.nextInt(6) == 0 ? text.substring(0, random.nextInt(text.length() + 1)) : text.toString();
    }

    private void oneText(String at) {
        boolean hasRoom = calls + CALLS_OF_A_TEXT <= CALLS - CALLS_AT_THE_END;
        if (hasRoom && random.nextInt(3) != 0) {
            due(at + "clearText", desk.clearText(), reference.clearText());
            String text = someText();
            for (int i = 0; i < text.length(); i++) {
                due(at + "type", desk.type(text.charAt(i)), reference.type(text.charAt(i)));
            }
        }
        due(at + "logAll", desk.logAll(), reference.logAll());
    }

    private void oneHistoryCall(String at, int choice) {
        if (choice < 70) {
            due(at + "undo", desk.undo(), reference.undo());
        } else if (choice < 72) {
            due(at + "keep", desk.keep(), reference.keep());
        } else {
            due(at + "restore", desk.restore(), reference.restore());
        }
    }

    private void oneLook(String at) {
        int port = port();
        int season = season();
        int direction = direction();
        int kind = wrongOr(random.nextInt(3));
        switch (random.nextInt(13)) {
            case 0:
                lookAtRose(at, port, season, wrongOr(random.nextInt(10)));
                break;
            case 1:
                int wide = random.nextBoolean() ? 3 : kind;
                due(at + "hours", desk.hours(port, season, direction, wide),
                    reference.hours(port, season, direction, wide));
                break;
            case 2:
            case 3:
                lookAtPart(at, port, season, direction, kind);
                break;
            case 4:
                due(at + "quarter", desk.quarter(port, season, kind), reference.quarter(port, season, kind));
                break;
            case 5:
                due(at + "excess", desk.excess(port, season, direction),
                    reference.excess(port, season, direction));
                break;
            case 6:
                int other = port();
                due(at + "unlike", desk.unlike(port, other, season), reference.unlike(port, other, season));
                break;
            case 7:
                due(at + "seasonOf", desk.seasonOf(port, kind), reference.seasonOf(port, kind));
                break;
            case 8:
            case 9:
                int what = wrongOr(random.nextInt(6));
                due(at + "plate", desk.plate(port, season, what), reference.plate(port, season, what));
                break;
            case 10:
                due(at + "reason", desk.reason(port, season), reference.reason(port, season));
                break;
            case 11:
                due(at + "nextPlate", desk.nextPlate(), reference.nextPlate());
                break;
            default:
                int counted = wrongOr(random.nextInt(11));
                due(at + "count " + counted, desk.count(counted), reference.count(counted));
                break;
        }
    }

    private void lookAtRose(String at, int port, int season, int what) {
        due(at + "rose " + what, desk.rose(port, season, what), reference.rose(port, season, what));
    }

    private void lookAtPart(String at, int port, int season, int direction, int kind) {
        int share = reference.share(port, season, direction, kind);
        due(at + "share", desk.share(port, season, direction, kind), share);
        due(at + "dealt", desk.dealt(port, season, direction, kind), share);
        due(at + "petal", desk.petal(port, season, direction, kind),
            reference.petal(port, season, direction, kind));
    }

    private void lookAtTheEnd(String at) {
        for (int what = 0; what <= 10; what++) {
            due(at + "count " + what, desk.count(what), reference.count(what));
        }
        due(at + "nextPlate", desk.nextPlate(), reference.nextPlate());
        for (int looked = 0; looked < 3; looked++) {
            int port = random.nextInt(roses);
            int season = 3 - random.nextInt(roses);
            for (int what = 0; what <= 9; what++) {
                lookAtRose(at, port, season, what);
            }
            for (int what = 0; what <= 5; what++) {
                due(at + "plate", desk.plate(port, season, what), reference.plate(port, season, what));
            }
            int part = random.nextInt(48);
            lookAtPart(at, port, season, part / 3, part % 3);
        }
    }
}
