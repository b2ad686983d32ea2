import java.util.ArrayDeque;
import java.util.ArrayList;
import java.util.Deque;
import java.util.HashMap;
import java.util.List;
import java.util.Map;
import java.util.regex.Matcher;
import java.util.regex.Pattern;

/** The document told once more, in another way and without regard to speed, to compare the program with. */
final class Reference {
    private static final Pattern TEXT;

    static {
        String entry = "[0-3]\\.[0-3]:(?:c|(?:1[0-5]|[0-9])@[1-9][0-9]?)(?:\\*[1-9][0-9]?)?";
        TEXT = Pattern.compile(entry + "(?:;" + entry + ")*");
    }

    private static final class State {
        /** By port, season, direction and speed; a calm hour has the speed 0 and the direction 0. */
        final Map<List<Integer>, Integer> hours = new HashMap<>();
        /** By port, season, direction and class. */
        final Map<List<Integer>, Integer> petals = new HashMap<>();
        final int[][] circle = new int[4][4];
        final int[][] scrapes = new int[4][4];
        final int[] settings = {12, 30, 5};
        int engraved;
        int renewed;

        State copy() {
            State copy = new State();
            copy.hours.putAll(hours);
            copy.petals.putAll(petals);
            for (int port = 0; port < 4; port++) {
                for (int season = 0; season < 4; season++) {
                    copy.circle[port][season] = circle[port][season];
                    copy.scrapes[port][season] = scrapes[port][season];
                }
            }
            for (int i = 0; i < 3; i++) {
                copy.settings[i] = settings[i];
            }
            copy.engraved = engraved;
            copy.renewed = renewed;
            return copy;
        }
    }

    private State state = new State();
    private final Deque<State> history = new ArrayDeque<>();
    private State snapshot = null;
    private String text = "";

    private static boolean in(int value, int low, int high) {
        return low <= value && value <= high;
    }

    private void act() {
        history.addLast(state.copy());
        while (history.size() > 4) {
            history.removeFirst();
        }
    }

    private interface Wanted {
        boolean is(int direction, int speed);
    }

    private int sum(int port, int season, Wanted wanted) {
        int sum = 0;
        for (Map.Entry<List<Integer>, Integer> entry : state.hours.entrySet()) {
            List<Integer> key = entry.getKey();
            if (key.get(0) == port && key.get(1) == season && wanted.is(key.get(2), key.get(3))) {
                sum += entry.getValue();
            }
        }
        return sum;
    }

    private int all(int port, int season) {
        return sum(port, season, (d, s) -> true);
    }

    private int windy(int port, int season) {
        return sum(port, season, (d, s) -> s > 0);
    }

    private int calmOnes(int port, int season) {
        return sum(port, season, (d, s) -> s == 0);
    }

    private int kindOf(int speed) {
        return speed < state.settings[0] ? 0 : speed < state.settings[1] ? 1 : 2;
    }

    private int part(int port, int season, int direction, int kind) {
        return sum(port, season, (d, s) -> s > 0 && d == direction && kindOf(s) == kind);
    }

    private int from(int port, int season, int direction) {
        return sum(port, season, (d, s) -> s > 0 && d == direction);
    }

    private int ofClass(int port, int season, int kind) {
        return sum(port, season, (d, s) -> s > 0 && kindOf(s) == kind);
    }

    private int calmShare(int port, int season) {
        int all = all(port, season);
        return all == 0 ? 0 : 100 * calmOnes(port, season) / all;
    }

    private int[] sharesOf(int port, int season) {
        int[] shares = new int[48];
        int windy = windy(port, season);
        if (windy == 0) {
            return shares;
        }
        List<int[]> order = new ArrayList<>();
        int missing = 100;
        for (int part = 0; part < 48; part++) {
            int hundredfold = 100 * part(port, season, part / 3, part % 3);
            shares[part] = hundredfold / windy;
            missing -= shares[part];
            order.add(new int[] {part, hundredfold % windy});
        }
        order.sort((a, b) -> a[1] != b[1] ? Integer.compare(b[1], a[1]) : Integer.compare(a[0], b[0]));
        for (int i = 0; i < missing; i++) {
            shares[order.get(i)[0]]++;
        }
        return shares;
    }

    private int petalOf(int port, int season, int part) {
        return state.petals.getOrDefault(List.of(port, season, part / 3, part % 3), 0);
    }

    /** How many are different, how far they are, and how many are to be scraped. */
    private int[] gap(int port, int season) {
        int[] due = sharesOf(port, season);
        int different = 0;
        int far = 0;
        int scrapes = 0;
        for (int i = 0; i <= 48; i++) {
            int is = i < 48 ? petalOf(port, season, i) : state.circle[port][season];
            int shall = i < 48 ? due[i] : calmShare(port, season);
            different += is == shall ? 0 : 1;
            far += Math.abs(is - shall);
            scrapes += is > shall ? 1 : 0;
        }
        return new int[] {different, far, scrapes};
    }

    private void add(int port, int season, int direction, int speed, int hours) {
        state.hours.merge(List.of(port, season, direction, speed), hours, Integer::sum);
    }

    int log(int port, int season, int direction, int speed, int hours) {
        if (!in(port, 0, 3) || !in(season, 0, 3) || !in(direction, 0, 15)) {
            return -1;
        }
        if (!in(speed, 1, 99) || !in(hours, 1, 99)) {
            return -2;
        }
        if (all(port, season) + hours > 9999) {
            return -3;
        }
        act();
        add(port, season, direction, speed, hours);
        return all(port, season);
    }

    int calm(int port, int season, int hours) {
        if (!in(port, 0, 3) || !in(season, 0, 3)) {
            return -1;
        }
        if (!in(hours, 1, 99)) {
            return -2;
        }
        if (all(port, season) + hours > 9999) {
            return -3;
        }
        act();
        add(port, season, 0, 0, hours);
        return all(port, season);
    }

    int strike(int port, int season, int direction, int speed) {
        if (!in(port, 0, 3) || !in(season, 0, 3) || !in(direction, 0, 15)) {
            return -1;
        }
        if (!in(speed, 1, 99)) {
            return -2;
        }
        List<Integer> key = List.of(port, season, direction, speed);
        if (!state.hours.containsKey(key)) {
            return -5;
        }
        act();
        return state.hours.remove(key);
    }

    int turn(int port, int season, int by) {
        if (!in(port, 0, 3) || !in(season, 0, 3)) {
            return -1;
        }
        if (!in(by, 1, 15)) {
            return -2;
        }
        if (windy(port, season) == 0) {
            return -5;
        }
        act();
        State old = state.copy();
        state.hours.clear();
        for (Map.Entry<List<Integer>, Integer> entry : old.hours.entrySet()) {
            List<Integer> key = entry.getKey();
            boolean turned = key.get(0) == port && key.get(1) == season && key.get(3) > 0;
            int direction = turned ? (key.get(2) + by) % 16 : key.get(2);
            add(key.get(0), key.get(1), direction, key.get(3), entry.getValue());
        }
        return windy(port, season);
    }

    int set(int which, int value) {
        if (!in(which, 0, 2)) {
            return -1;
        }
        if (which == 2 ? !in(value, 0, 9) : !in(value, 1, 99)) {
            return -2;
        }
        int[] then = state.settings.clone();
        then[which] = value;
        if (then[0] >= then[1]) {
            return -4;
        }
        int previous = state.settings[which];
        if (previous == value) {
            return -5;
        }
        act();
        state.settings[which] = value;
        return previous;
    }

    private boolean tooMany(int port, int season) {
        int needed = gap(port, season)[2];
        return needed != 0 && state.scrapes[port][season] + needed > state.settings[2];
    }

    int engrave(int port, int season) {
        if (!in(port, 0, 3) || !in(season, 0, 3)) {
            return -1;
        }
        if (all(port, season) == 0 || tooMany(port, season)) {
            return -4;
        }
        int[] gap = gap(port, season);
        if (gap[0] == 0) {
            return -5;
        }
        act();
        int[] due = sharesOf(port, season);
        for (int part = 0; part < 48; part++) {
            state.petals.put(List.of(port, season, part / 3, part % 3), due[part]);
        }
        state.circle[port][season] = calmShare(port, season);
        state.scrapes[port][season] += gap[2];
        state.engraved++;
        return gap[0];
    }

    int renew(int port, int season) {
        if (!in(port, 0, 3) || !in(season, 0, 3)) {
            return -1;
        }
        int old = state.scrapes[port][season];
        if (old == 0 && state.circle[port][season] == 0 && plate(port, season, 2) == 0) {
            return -5;
        }
        act();
        state.petals.keySet().removeIf(key -> key.get(0) == port && key.get(1) == season);
        state.circle[port][season] = 0;
        state.scrapes[port][season] = 0;
        state.renewed++;
        return old;
    }

    int type(char character) {
        if (text.length() >= 80) {
            return -3;
        }
        text += character;
        return text.length();
    }

    int clearText() {
        int length = text.length();
        text = "";
        return length;
    }

    /** The length of the longest beginning that some text without a fault begins with. */
    private int fault() {
        for (int length = text.length(); length > 0; length--) {
            Matcher matcher = TEXT.matcher(text.substring(0, length));
            if (matcher.matches() || matcher.hitEnd()) {
                return length;
            }
        }
        return 0;
    }

    int logAll() {
        if (!TEXT.matcher(text).matches()) {
            return -100 - fault();
        }
        State before = state.copy();
        int logged = 0;
        for (String entry : text.split(";")) {
            String[] fields = entry.split("[.:@*]");
            int port = Integer.parseInt(fields[0]);
            int season = Integer.parseInt(fields[1]);
            boolean isCalm = fields[2].equals("c");
            int hours = entry.indexOf('*') < 0 ? 1 : Integer.parseInt(fields[fields.length - 1]);
            add(port, season, isCalm ? 0 : Integer.parseInt(fields[2]),
                isCalm ? 0 : Integer.parseInt(fields[3]), hours);
            logged += hours;
        }
        State after = state;
        for (int rose = 0; rose < 16; rose++) {
            if (all(rose / 4, rose % 4) > 9999) {
                state = before;
                return -3;
            }
        }
        state = before;
        act();
        state = after;
        return logged;
    }

    int undo() {
        if (history.isEmpty()) {
            return -5;
        }
        state = history.removeLast();
        return history.size();
    }

    int keep() {
        snapshot = state.copy();
        return count(0);
    }

    int restore() {
        if (snapshot == null) {
            return -5;
        }
        act();
        state = snapshot.copy();
        return count(0);
    }

    int rose(int port, int season, int what) {
        if (!in(port, 0, 3) || !in(season, 0, 3)) {
            return -1;
        }
        int windy = windy(port, season);
        switch (what) {
            case 0: return all(port, season);
            case 1: return windy;
            case 2: return calmOnes(port, season);
            case 3: return calmShare(port, season);
            case 4: return greatestSpeed(port, season);
            case 5: return windy == 0 ? -5 : speeds(port, season) / windy;
            case 6: case 7: case 8: return ofClass(port, season, what - 6);
            case 9: return most(port, season);
            default: return -2;
        }
    }

    private int greatestSpeed(int port, int season) {
        int greatest = -5;
        for (List<Integer> key : state.hours.keySet()) {
            if (key.get(0) == port && key.get(1) == season && key.get(3) > 0) {
                greatest = Math.max(greatest, key.get(3));
            }
        }
        return greatest;
    }

    private int speeds(int port, int season) {
        int speeds = 0;
        for (int speed = 1; speed <= 99; speed++) {
            int wanted = speed;
            speeds += speed * sum(port, season, (d, s) -> s == wanted);
        }
        return speeds;
    }

    private int most(int port, int season) {
        int best = -5;
        for (int direction = 15; direction >= 0; direction--) {
            int hours = from(port, season, direction);
            if (hours > 0 && (best < 0 || hours >= from(port, season, best))) {
                best = direction;
            }
        }
        return best;
    }

    int hours(int port, int season, int direction, int kind) {
        if (!in(port, 0, 3) || !in(season, 0, 3) || !in(direction, 0, 15) || !in(kind, 0, 3)) {
            return -1;
        }
        return kind == 3 ? from(port, season, direction) : part(port, season, direction, kind);
    }

    int share(int port, int season, int direction, int kind) {
        if (!in(port, 0, 3) || !in(season, 0, 3) || !in(direction, 0, 15) || !in(kind, 0, 2)) {
            return -1;
        }
        return sharesOf(port, season)[3 * direction + kind];
    }

    int quarter(int port, int season, int quarter) {
        if (!in(port, 0, 3) || !in(season, 0, 3) || !in(quarter, 0, 3)) {
            return -1;
        }
        int[] near = new int[5];
        for (int i = 0; i < 5; i++) {
            near[i] = from(port, season, (4 * quarter + i + 14) % 16);
        }
        return near[1] + near[2] + near[3] + (near[0] + near[4]) / 2;
    }

    int excess(int port, int season, int direction) {
        if (!in(port, 0, 3) || !in(season, 0, 3) || !in(direction, 0, 15)) {
            return -1;
        }
        int more = from(port, season, direction) - from(port, season, (direction + 8) % 16);
        return more < 0 ? 0 : more;
    }

    int unlike(int port, int other, int season) {
        if (!in(port, 0, 3) || !in(other, 0, 3) || !in(season, 0, 3)) {
            return -1;
        }
        if (port == other) {
            return -2;
        }
        int[] shares = sharesOf(port, season);
        int[] others = sharesOf(other, season);
        int sum = 0;
        for (int part = 0; part < 48; part++) {
            sum += Math.abs(shares[part] - others[part]);
        }
        return sum;
    }

    int seasonOf(int port, int kind) {
        if (!in(port, 0, 3) || !in(kind, 0, 2)) {
            return -1;
        }
        int best = -5;
        for (int season = 3; season >= 0; season--) {
            int hours = ofClass(port, season, kind);
            if (hours > 0 && (best < 0 || hours >= ofClass(port, best, kind))) {
                best = season;
            }
        }
        return best;
    }

    int plate(int port, int season, int what) {
        if (!in(port, 0, 3) || !in(season, 0, 3)) {
            return -1;
        }
        int cut = 0;
        int longest = 0;
        for (int part = 0; part < 48; part++) {
            cut += petalOf(port, season, part) > 0 ? 1 : 0;
            longest = Math.max(longest, petalOf(port, season, part));
        }
        switch (what) {
            case 0: return state.circle[port][season];
            case 1: return state.scrapes[port][season];
            case 2: return cut;
            case 3: return longest;
            case 4: return gap(port, season)[1];
            case 5: return gap(port, season)[2];
            default: return -2;
        }
    }

    int petal(int port, int season, int direction, int kind) {
        if (!in(port, 0, 3) || !in(season, 0, 3) || !in(direction, 0, 15) || !in(kind, 0, 2)) {
            return -1;
        }
        return petalOf(port, season, 3 * direction + kind);
    }

    int reason(int port, int season) {
        if (!in(port, 0, 3) || !in(season, 0, 3)) {
            return -1;
        }
        if (all(port, season) == 0) {
            return 1;
        }
        return gap(port, season)[0] == 0 ? 2 : tooMany(port, season) ? 3 : 0;
    }

    int nextPlate() {
        int best = -5;
        int far = 0;
        for (int rose = 15; rose >= 0; rose--) {
            int here = gap(rose / 4, rose % 4)[1];
            if (reason(rose / 4, rose % 4) == 0 && here > 0 && here >= far) {
                best = rose;
                far = here;
            }
        }
        return best;
    }

    int count(int what) {
        if (what >= 6 && what <= 8) {
            return state.settings[what - 6];
        }
        int sum = 0;
        for (int rose = 0; rose < 16 && what >= 0 && what <= 3; rose++) {
            int port = rose / 4;
            int season = rose % 4;
            sum += what == 0 ? all(port, season)
                : what == 1 ? calmOnes(port, season)
                : what == 2 ? (gap(port, season)[1] > 0 ? 1 : 0)
                : state.scrapes[port][season];
        }
        switch (what) {
            case 0: case 1: case 2: case 3: return sum;
            case 4: return state.engraved;
            case 5: return state.renewed;
            case 9: return history.size();
            case 10: return text.length();
            default: return -2;
        }
    }
}
