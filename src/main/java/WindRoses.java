/**
 * Wind rose engraver's desk: logs of wind by port and season, the shares that are due of them, and
 * the plates on which these are engraved. ../shared/DOC.md tells what each method promises.
 */
public final class WindRoses {
    public static final int UNKNOWN = -1;
    public static final int BAD_VALUE = -2;
    public static final int FULL = -3;
    public static final int NOT_POSSIBLE = -4;
    public static final int NONE = -5;

    private static final int PORTS = 4;
    private static final int SEASONS = 4;
    private static final int ROSES = PORTS * SEASONS;
    private static final int DIRECTIONS = 16;
    private static final int CLASSES = 3;
    private static final int PARTS = DIRECTIONS * CLASSES;
    private static final int MAX_SPEED = 99;
    private static final int MAX_HOURS = 99;
    private static final int LOG_ROOM = 9999;
    private static final int HUNDREDTHS = 100;

    private static final int SETTINGS = 3;
    private static final int ALLOWED_SCRAPES = 2;
    private static final int MAX_SCRAPES = 9;

    private static final int HISTORY_ROOM = 4;
    private static final int TEXT_ROOM = 80;
    /** The shortest entry, as in "0.0:c", has five characters. */
    private static final int ENTRY_ROOM = TEXT_ROOM / 5;
    private static final int FAULT_BASE = -100;

    private static final int CAN_BE = 0;
    private static final int NO_HOURS = 1;
    private static final int AS_DUE = 2;
    private static final int TOO_MANY_SCRAPES = 3;

    private final Desk desk;
    private final History history;
    private final int[] snapshot;
    private boolean hasSnapshot;
    private final Reader reader;
    private final Text text;
    private final Shares shares;
    private final Shares otherShares;
    private final Gap gap;

    public WindRoses() {
        desk = new Desk();
        history = new History();
        snapshot = new int[Desk.SIZE];
        hasSnapshot = false;
        reader = new Reader();
        text = reader.text;
        shares = new Shares();
        otherShares = new Shares();
        gap = new Gap();
    }

    // ---- logs

    public int log(int port, int season, int direction, int speed, int hours) {
        if (!isRose(port, season) || !isDirection(direction)) {
            return UNKNOWN;
        }
        if (!isBetween(speed, 1, MAX_SPEED) || !isBetween(hours, 1, MAX_HOURS)) {
            return BAD_VALUE;
        }
        int rose = roseOf(port, season);
        if (!desk.hasRoom(rose, hours)) {
            return FULL;
        }
        history.remember(desk);
        desk.addWindy(rose, direction, speed, hours);
        return desk.allHours(rose);
    }

    public int calm(int port, int season, int hours) {
        if (!isRose(port, season)) {
            return UNKNOWN;
        }
        if (!isBetween(hours, 1, MAX_HOURS)) {
            return BAD_VALUE;
        }
        int rose = roseOf(port, season);
        if (!desk.hasRoom(rose, hours)) {
            return FULL;
        }
        history.remember(desk);
        desk.addCalm(rose, hours);
        return desk.allHours(rose);
    }

    public int strike(int port, int season, int direction, int speed) {
        if (!isRose(port, season) || !isDirection(direction)) {
            return UNKNOWN;
        }
        if (!isBetween(speed, 1, MAX_SPEED)) {
            return BAD_VALUE;
        }
        int rose = roseOf(port, season);
        int struck = desk.hoursAt(rose, direction, speed);
        if (struck == 0) {
            return NONE;
        }
        history.remember(desk);
        desk.addWindy(rose, direction, speed, -struck);
        return struck;
    }

    public int turn(int port, int season, int by) {
        if (!isRose(port, season)) {
            return UNKNOWN;
        }
        if (!isBetween(by, 1, DIRECTIONS - 1)) {
            return BAD_VALUE;
        }
        int rose = roseOf(port, season);
        if (desk.windyHours(rose) == 0) {
            return NONE;
        }
        history.remember(desk);
        desk.turnLog(rose, by);
        return desk.windyHours(rose);
    }

    public int set(int which, int value) {
        if (!isBetween(which, 0, SETTINGS - 1)) {
            return UNKNOWN;
        }
        if (!isSettingInRange(which, value)) {
            return BAD_VALUE;
        }
        if (wouldMixBounds(which, value)) {
            return NOT_POSSIBLE;
        }
        int previous = desk.setting(which);
        if (previous == value) {
            return NONE;
        }
        history.remember(desk);
        desk.putSetting(which, value);
        return previous;
    }

    // ---- plates

    public int engrave(int port, int season) {
        if (!isRose(port, season)) {
            return UNKNOWN;
        }
        int rose = roseOf(port, season);
        int obstacle = obstacleTo(rose);
        if (obstacle == NO_HOURS || obstacle == TOO_MANY_SCRAPES) {
            return NOT_POSSIBLE;
        }
        if (obstacle == AS_DUE) {
            return NONE;
        }
        history.remember(desk);
        desk.cut(rose, gap.due, gap.scrapes);
        return gap.different;
    }

    public int renew(int port, int season) {
        if (!isRose(port, season)) {
            return UNKNOWN;
        }
        int rose = roseOf(port, season);
        if (desk.isNewPlate(rose)) {
            return NONE;
        }
        int old = desk.scrapes(rose);
        history.remember(desk);
        desk.putNewPlate(rose);
        return old;
    }

    // ---- texts

    public int type(char character) {
        if (text.isFull()) {
            return FULL;
        }
        text.append(character);
        return text.length();
    }

    public int clearText() {
        int old = text.length();
        text.makeEmpty();
        return old;
    }

    public int logAll() {
        if (!reader.readAll()) {
            return FAULT_BASE - reader.place;
        }
        for (int rose = 0; rose < ROSES; rose++) {
            if (!desk.hasRoom(rose, reader.hoursOf(rose))) {
                return FULL;
            }
        }
        history.remember(desk);
        int logged = 0;
        for (int entry = 0; entry < reader.entries; entry++) {
            reader.addEntry(desk, entry);
            logged += reader.hours[entry];
        }
        return logged;
    }

    // ---- history

    public int undo() {
        if (history.states == 0) {
            return NONE;
        }
        history.takeBack(desk);
        return history.states;
    }

    public int keep() {
        desk.saveTo(snapshot, 0);
        hasSnapshot = true;
        return desk.hoursOfAll();
    }

    public int restore() {
        if (!hasSnapshot) {
            return NONE;
        }
        history.remember(desk);
        desk.loadFrom(snapshot, 0);
        return desk.hoursOfAll();
    }

    // ---- what is told of logs

    public int rose(int port, int season, int what) {
        if (!isRose(port, season)) {
            return UNKNOWN;
        }
        int rose = roseOf(port, season);
        switch (what) {
            case 0:
                return desk.allHours(rose);
            case 1:
                return desk.windyHours(rose);
            case 2:
                return desk.calmHours(rose);
            case 3:
                return desk.calmShare(rose);
            case 4:
                return greatestSpeed(rose);
            case 5:
                return meanSpeed(rose);
            case 6:
            case 7:
            case 8:
                return desk.classHours(rose, what - 6);
            case 9:
                return prevailingDirection(rose);
            default:
                return BAD_VALUE;
        }
    }

    public int hours(int port, int season, int direction, int kind) {
        if (!isRose(port, season) || !isDirection(direction)) {
            return UNKNOWN;
        }
        int rose = roseOf(port, season);
        if (kind == CLASSES) {
            return desk.directionHours(rose, direction);
        }
        return isClass(kind) ? desk.partHours(rose, direction, kind) : UNKNOWN;
    }

    public int share(int port, int season, int direction, int kind) {
        if (!isPart(port, season, direction, kind)) {
            return UNKNOWN;
        }
        shares.fillByRank(desk, roseOf(port, season));
        return shares.row[partOf(direction, kind)];
    }

    public int dealt(int port, int season, int direction, int kind) {
        if (!isPart(port, season, direction, kind)) {
            return UNKNOWN;
        }
        shares.fillByDealing(desk, roseOf(port, season));
        return shares.row[partOf(direction, kind)];
    }

    public int quarter(int port, int season, int quarter) {
        if (!isRose(port, season) || !isBetween(quarter, 0, 3)) {
            return UNKNOWN;
        }
        int rose = roseOf(port, season);
        int midst = quarter * 4;
        int inner = hoursFrom(rose, midst - 1) + hoursFrom(rose, midst) + hoursFrom(rose, midst + 1);
        int outer = hoursFrom(rose, midst - 2) + hoursFrom(rose, midst + 2);
        return inner + outer / 2;
    }

    public int excess(int port, int season, int direction) {
        if (!isRose(port, season) || !isDirection(direction)) {
            return UNKNOWN;
        }
        int rose = roseOf(port, season);
        int opposite = direction + DIRECTIONS / 2;
        return Math.max(0, hoursFrom(rose, direction) - hoursFrom(rose, opposite));
    }

    public int unlike(int port, int other, int season) {
        if (!isRose(port, season) || !isRose(other, season)) {
            return UNKNOWN;
        }
        if (port == other) {
            return BAD_VALUE;
        }
        shares.fillByRank(desk, roseOf(port, season));
        otherShares.fillByRank(desk, roseOf(other, season));
        int sum = 0;
        for (int part = 0; part < PARTS; part++) {
            sum += Math.abs(shares.row[part] - otherShares.row[part]);
        }
        return sum;
    }

    public int seasonOf(int port, int kind) {
        if (!isBetween(port, 0, PORTS - 1) || !isClass(kind)) {
            return UNKNOWN;
        }
        int most = 0;
        int found = NONE;
        for (int season = 0; season < SEASONS; season++) {
            int hours = desk.classHours(roseOf(port, season), kind);
            if (hours > most) {
                most = hours;
                found = season;
            }
        }
        return found;
    }

    // ---- what is told of plates

    public int plate(int port, int season, int what) {
        if (!isRose(port, season)) {
            return UNKNOWN;
        }
        int rose = roseOf(port, season);
        switch (what) {
            case 0:
                return desk.circle(rose);
            case 1:
                return desk.scrapes(rose);
            case 2:
                return desk.petalsCut(rose);
            case 3:
                return desk.longestPetal(rose);
            case 4:
                gap.measure(desk, rose);
                return gap.distance;
            case 5:
                gap.measure(desk, rose);
                return gap.scrapes;
            default:
                return BAD_VALUE;
        }
    }

    public int petal(int port, int season, int direction, int kind) {
        if (!isPart(port, season, direction, kind)) {
            return UNKNOWN;
        }
        return desk.petalLength(roseOf(port, season), partOf(direction, kind));
    }

    public int reason(int port, int season) {
        return isRose(port, season) ? obstacleTo(roseOf(port, season)) : UNKNOWN;
    }

    public int nextPlate() {
        int farthest = 0;
        int found = NONE;
        for (int rose = 0; rose < ROSES; rose++) {
            if (obstacleTo(rose) == CAN_BE && gap.distance > farthest) {
                farthest = gap.distance;
                found = rose;
            }
        }
        return found;
    }

    public int count(int what) {
        switch (what) {
            case 0:
                return desk.hoursOfAll();
            case 1:
                return desk.calmHoursOfAll();
            case 2:
                return platesNotAsDue();
            case 3:
                return desk.scrapesOfAll();
            case 4:
                return desk.platesEngraved();
            case 5:
                return desk.platesRenewed();
            case 6:
            case 7:
            case 8:
                return desk.setting(what - 6);
            case 9:
                return history.states;
            case 10:
                return text.length();
            default:
                return BAD_VALUE;
        }
    }

    // ---- what arguments are

    private static boolean isBetween(int value, int low, int high) {
        return value >= low && value <= high;
    }

    private static boolean isRose(int port, int season) {
        return isBetween(port, 0, PORTS - 1) && isBetween(season, 0, SEASONS - 1);
    }

    private static boolean isDirection(int direction) {
        return isBetween(direction, 0, DIRECTIONS - 1);
    }

    private static boolean isClass(int kind) {
        return isBetween(kind, 0, CLASSES - 1);
    }

    private static boolean isPart(int port, int season, int direction, int kind) {
        return isRose(port, season) && isDirection(direction) && isClass(kind);
    }

    private static int roseOf(int port, int season) {
        return port * SEASONS + season;
    }

    /** Parts are numbered by direction, then by class: so the lower of two is the first to be given to. */
    private static int partOf(int direction, int kind) {
        return direction * CLASSES + kind;
    }

    private static boolean isSettingInRange(int which, int value) {
        if (which == ALLOWED_SCRAPES) {
            return isBetween(value, 0, MAX_SCRAPES);
        }
        return isBetween(value, 1, MAX_SPEED);
    }

    private boolean wouldMixBounds(int which, int value) {
        if (which == 0) {
            return value >= desk.setting(1);
        }
        return which == 1 && desk.setting(0) >= value;
    }

    // ---- what logs tell

    /** Takes directions past either end, too: they go round. */
    private int hoursFrom(int rose, int direction) {
        return desk.directionHours(rose, Math.floorMod(direction, DIRECTIONS));
    }

    private int greatestSpeed(int rose) {
        for (int speed = MAX_SPEED; speed >= 1; speed--) {
            if (desk.speedHours(rose, speed) > 0) {
                return speed;
            }
        }
        return NONE;
    }

    private int meanSpeed(int rose) {
        int windy = desk.windyHours(rose);
        if (windy <= 0) {
            return NONE;
        }
        int sum = 0;
        for (int speed = 1; speed <= MAX_SPEED; speed++) {
            sum += speed * desk.speedHours(rose, speed);
        }
        return sum / windy;
    }

    private int prevailingDirection(int rose) {
        int most = 0;
        int found = NONE;
        for (int direction = 0; direction < DIRECTIONS; direction++) {
            int hours = desk.directionHours(rose, direction);
            if (hours > most) {
                most = hours;
                found = direction;
            }
        }
        return found;
    }

    // ---- what plates tell

    /** Leaves the gap of the rose measured, unless its log has no hours. */
    private int obstacleTo(int rose) {
        if (desk.allHours(rose) == 0) {
            return NO_HOURS;
        }
        gap.measure(desk, rose);
        if (gap.different == 0) {
            return AS_DUE;
        }
        // A plate that needs no scrape passes, though a lowered setting may be below what it has.
        if (gap.scrapes > 0 && desk.scrapes(rose) + gap.scrapes > desk.setting(ALLOWED_SCRAPES)) {
            return TOO_MANY_SCRAPES;
        }
        return CAN_BE;
    }

    private int platesNotAsDue() {
        int plates = 0;
        for (int rose = 0; rose < ROSES; rose++) {
            gap.measure(desk, rose);
            if (gap.different > 0) {
                plates++;
            }
        }
        return plates;
    }

    /** The state, all in one row of numbers: so one copy records or restores the whole of it. */
    private static final class Desk {
        static final int LOG_SIZE = DIRECTIONS * MAX_SPEED;
        static final int WINDY_AT = ROSES * LOG_SIZE;
        static final int CALM_AT = WINDY_AT + ROSES;
        static final int PETALS_AT = CALM_AT + ROSES;
        static final int CIRCLES_AT = PETALS_AT + ROSES * PARTS;
        static final int SCRAPES_AT = CIRCLES_AT + ROSES;
        static final int SETTINGS_AT = SCRAPES_AT + ROSES;
        static final int ENGRAVED_AT = SETTINGS_AT + SETTINGS;
        static final int RENEWED_AT = ENGRAVED_AT + 1;
        static final int SIZE = RENEWED_AT + 1;

        private final int[] row;
        private final int[] turning;

        Desk() {
            row = new int[SIZE];
            turning = new int[LOG_SIZE];
            row[SETTINGS_AT] = 12;
            row[SETTINGS_AT + 1] = 30;
            row[SETTINGS_AT + ALLOWED_SCRAPES] = 5;
        }

        void saveTo(int[] store, int at) {
            System.arraycopy(row, 0, store, at, SIZE);
        }

        void loadFrom(int[] store, int at) {
            System.arraycopy(store, at, row, 0, SIZE);
        }

        private static int cellOf(int rose, int direction, int speed) {
            return rose * LOG_SIZE + direction * MAX_SPEED + speed - 1;
        }

        int hoursAt(int rose, int direction, int speed) {
            return row[cellOf(rose, direction, speed)];
        }

        int windyHours(int rose) {
            return row[WINDY_AT + rose];
        }

        int calmHours(int rose) {
            return row[CALM_AT + rose];
        }

        int allHours(int rose) {
            return windyHours(rose) + calmHours(rose);
        }

        boolean hasRoom(int rose, int hours) {
            return allHours(rose) + hours <= LOG_ROOM;
        }

        void addWindy(int rose, int direction, int speed, int hours) {
            row[cellOf(rose, direction, speed)] += hours;
            row[WINDY_AT + rose] += hours;
        }

        void addCalm(int rose, int hours) {
            row[CALM_AT + rose] += hours;
        }

        void turnLog(int rose, int by) {
            int log = rose * LOG_SIZE;
            System.arraycopy(row, log, turning, 0, LOG_SIZE);
            for (int direction = 0; direction < DIRECTIONS; direction++) {
                int turned = (direction + by) % DIRECTIONS;
                System.arraycopy(turning, direction * MAX_SPEED, row, log + turned * MAX_SPEED, MAX_SPEED);
            }
        }

        /** The hours of the speeds from the first to before the end. */
        private int hoursBetween(int rose, int direction, int first, int end) {
            int start = rose * LOG_SIZE + direction * MAX_SPEED;
            int sum = 0;
            for (int speed = first; speed < end; speed++) {
                sum += row[start + speed - 1];
            }
            return sum;
        }

        int directionHours(int rose, int direction) {
            return hoursBetween(rose, direction, 1, MAX_SPEED + 1);
        }

        int partHours(int rose, int direction, int kind) {
            int first = kind == 0 ? 1 : setting(kind - 1);
            int end = kind == CLASSES - 1 ? MAX_SPEED + 1 : setting(kind);
            return hoursBetween(rose, direction, first, end);
        }

        int classHours(int rose, int kind) {
            int sum = 0;
            for (int direction = 0; direction < DIRECTIONS; direction++) {
                sum += partHours(rose, direction, kind);
            }
            return sum;
        }

        int speedHours(int rose, int speed) {
            int sum = 0;
            for (int direction = 0; direction < DIRECTIONS; direction++) {
                sum += hoursAt(rose, direction, speed);
            }
            return sum;
        }

        int calmShare(int rose) {
            int all = allHours(rose);
            return all > 0 ? HUNDREDTHS * calmHours(rose) / all : 0;
        }

        private int sumOfRoses(int at) {
            int sum = 0;
            for (int rose = 0; rose < ROSES; rose++) {
                sum += row[at + rose];
            }
            return sum;
        }

        int hoursOfAll() {
            return sumOfRoses(WINDY_AT) + sumOfRoses(CALM_AT);
        }

        int calmHoursOfAll() {
            return sumOfRoses(CALM_AT);
        }

        int scrapesOfAll() {
            return sumOfRoses(SCRAPES_AT);
        }

        int setting(int which) {
            return row[SETTINGS_AT + which];
        }

        void putSetting(int which, int value) {
            row[SETTINGS_AT + which] = value;
        }

        int circle(int rose) {
            return row[CIRCLES_AT + rose];
        }

        int scrapes(int rose) {
            return row[SCRAPES_AT + rose];
        }

        int petalLength(int rose, int part) {
            return row[PETALS_AT + rose * PARTS + part];
        }

        int petalsCut(int rose) {
            int cut = 0;
            for (int part = 0; part < PARTS; part++) {
                if (petalLength(rose, part) > 0) {
                    cut++;
                }
            }
            return cut;
        }

        int longestPetal(int rose) {
            int longest = 0;
            for (int part = 0; part < PARTS; part++) {
                longest = Math.max(longest, petalLength(rose, part));
            }
            return longest;
        }

        void cut(int rose, Shares due, int scrapes) {
            System.arraycopy(due.row, 0, row, PETALS_AT + rose * PARTS, PARTS);
            row[CIRCLES_AT + rose] = calmShare(rose);
            row[SCRAPES_AT + rose] += scrapes;
            row[ENGRAVED_AT]++;
        }

        boolean isNewPlate(int rose) {
            return petalsCut(rose) == 0 && circle(rose) == 0 && scrapes(rose) == 0;
        }

        void putNewPlate(int rose) {
            for (int part = 0; part < PARTS; part++) {
                row[PETALS_AT + rose * PARTS + part] = 0;
            }
            row[CIRCLES_AT + rose] = 0;
            row[SCRAPES_AT + rose] = 0;
            row[RENEWED_AT]++;
        }

        int platesEngraved() {
            return row[ENGRAVED_AT];
        }

        int platesRenewed() {
            return row[RENEWED_AT];
        }
    }

    /** The latest states, in a ring: so the oldest one is dropped without moving the others. */
    private static final class History {
        private final int[] rows;
        private int oldest;
        int states;

        History() {
            rows = new int[HISTORY_ROOM * Desk.SIZE];
            oldest = 0;
            states = 0;
        }

        private int placeOf(int state) {
            return (oldest + state) % HISTORY_ROOM * Desk.SIZE;
        }

        void remember(Desk desk) {
            if (states == HISTORY_ROOM) {
                oldest = (oldest + 1) % HISTORY_ROOM;
                states--;
            }
            desk.saveTo(rows, placeOf(states));
            states++;
        }

        void takeBack(Desk desk) {
            if (states > 0) {
                states--;
                desk.loadFrom(rows, placeOf(states));
            }
        }
    }

    /** The shares of the parts of one log, made in either of the two ways that are told. */
    private static final class Shares {
        final int[] row;
        private final int[] remainders;
        private final boolean[] given;
        private int missing;

        Shares() {
            row = new int[PARTS];
            remainders = new int[PARTS];
            given = new boolean[PARTS];
            missing = 0;
        }

        void fillByRank(Desk desk, int rose) {
            divide(desk, rose);
            for (int part = 0; part < PARTS; part++) {
                // Without a remainder there is nothing to be given: what is missing is their sum.
                if (remainders[part] > 0 && partsAhead(part) < missing) {
                    row[part]++;
                }
            }
        }

        void fillByDealing(Desk desk, int rose) {
            divide(desk, rose);
            for (int part = 0; part < PARTS; part++) {
                given[part] = false;
            }
            for (int hundredth = 0; hundredth < missing; hundredth++) {
                giveOne();
            }
        }

        private void divide(Desk desk, int rose) {
            int windy = desk.windyHours(rose);
            if (windy <= 0) {
                makeEmpty();
                return;
            }
            missing = HUNDREDTHS;
            for (int direction = 0; direction < DIRECTIONS; direction++) {
                for (int kind = 0; kind < CLASSES; kind++) {
                    int part = partOf(direction, kind);
                    int hundredfold = HUNDREDTHS * desk.partHours(rose, direction, kind);
                    row[part] = hundredfold / windy;
                    remainders[part] = hundredfold % windy;
                    missing -= row[part];
                }
            }
        }

        private void makeEmpty() {
            missing = 0;
            for (int part = 0; part < PARTS; part++) {
                row[part] = 0;
                remainders[part] = 0;
            }
        }

        private int partsAhead(int part) {
            int ahead = 0;
            for (int other = 0; other < PARTS; other++) {
                boolean isGreater = remainders[other] > remainders[part];
                boolean isLikeAndLower = remainders[other] == remainders[part] && other < part;
                if (isGreater || isLikeAndLower) {
                    ahead++;
                }
            }
            return ahead;
        }

        private void giveOne() {
            int best = -1;
            for (int part = 0; part < PARTS; part++) {
                if (!given[part] && (best < 0 || remainders[part] > remainders[best])) {
                    best = part;
                }
            }
            if (best >= 0) {
                given[best] = true;
                row[best]++;
            }
        }
    }

    /** How far one plate is from what is due. */
    private static final class Gap {
        final Shares due;
        int different;
        int distance;
        int scrapes;

        Gap() {
            due = new Shares();
            different = 0;
            distance = 0;
            scrapes = 0;
        }

        void measure(Desk desk, int rose) {
            due.fillByRank(desk, rose);
            different = 0;
            distance = 0;
            scrapes = 0;
            for (int part = 0; part < PARTS; part++) {
                compare(desk.petalLength(rose, part), due.row[part]);
            }
            compare(desk.circle(rose), desk.calmShare(rose));
        }

        private void compare(int length, int dueLength) {
            if (length != dueLength) {
                different++;
            }
            if (length > dueLength) {
                scrapes++;
            }
            distance += Math.abs(length - dueLength);
        }
    }

    /** The text that is typed. */
    private static final class Text {
        private final char[] row;
        private int length;

        Text() {
            row = new char[TEXT_ROOM];
            length = 0;
        }

        int length() {
            return length;
        }

        boolean isFull() {
            return length >= TEXT_ROOM;
        }

        void append(char character) {
            if (!isFull()) {
                row[length] = character;
                length++;
            }
        }

        void makeEmpty() {
            length = 0;
        }

        boolean isAt(int place, char character) {
            return isBetween(place, 0, length - 1) && row[place] == character;
        }

        /** The digit at a place, or -1 if there is none. */
        int digitAt(int place) {
            if (!isBetween(place, 0, length - 1) || !isBetween(row[place], '0', '9')) {
                return -1;
            }
            return row[place] - '0';
        }
    }

    /** Reads the text; where it stops, there is the fault of a text that has one. */
    private static final class Reader {
        private static final int CALM_AIR = -1;

        final Text text;
        private final int[] roses;
        private final int[] directions;
        private final int[] speeds;
        final int[] hours;
        int entries;
        int place;

        Reader() {
            text = new Text();
            roses = new int[ENTRY_ROOM];
            directions = new int[ENTRY_ROOM];
            speeds = new int[ENTRY_ROOM];
            hours = new int[ENTRY_ROOM];
            entries = 0;
            place = 0;
        }

        boolean readAll() {
            place = 0;
            entries = 0;
            for (int entry = 0; entry < ENTRY_ROOM; entry++) {
                if (!readEntry(entry)) {
                    return false;
                }
                entries = entry + 1;
                if (!take(';')) {
                    return place == text.length();
                }
            }
            return false;
        }

        int hoursOf(int rose) {
            int sum = 0;
            for (int entry = 0; entry < entries; entry++) {
                if (roses[entry] == rose) {
                    sum += hours[entry];
                }
            }
            return sum;
        }

        void addEntry(Desk desk, int entry) {
            if (directions[entry] == CALM_AIR) {
                desk.addCalm(roses[entry], hours[entry]);
            } else {
                desk.addWindy(roses[entry], directions[entry], speeds[entry], hours[entry]);
            }
        }

        private boolean readEntry(int entry) {
            int port = readNumber(0, PORTS - 1);
            if (port < 0 || !take('.')) {
                return false;
            }
            int season = readNumber(0, SEASONS - 1);
            if (season < 0 || !take(':')) {
                return false;
            }
            roses[entry] = roseOf(port, season);
            return readWind(entry) && readHours(entry);
        }

        private boolean readWind(int entry) {
            directions[entry] = CALM_AIR;
            speeds[entry] = 0;
            if (take('c')) {
                return true;
            }
            int direction = readNumber(0, DIRECTIONS - 1);
            if (direction < 0 || !take('@')) {
                return false;
            }
            directions[entry] = direction;
            speeds[entry] = readNumber(1, MAX_SPEED);
            return speeds[entry] > 0;
        }

        private boolean readHours(int entry) {
            hours[entry] = 1;
            if (!take('*')) {
                return true;
            }
            hours[entry] = readNumber(1, MAX_HOURS);
            return hours[entry] > 0;
        }

        private boolean take(char character) {
            if (!text.isAt(place, character)) {
                return false;
            }
            place++;
            return true;
        }

        /** Answers -1, and takes nothing, where no number of this range can begin. */
        private int readNumber(int low, int high) {
            int number = text.digitAt(place);
            if (!isBetween(number, low, high)) {
                return -1;
            }
            place++;
            // A number that begins with 0 ends with it; of the others none has more than two digits.
            int next = text.digitAt(place);
            if (number > 0 && next >= 0 && number * 10 + next <= high) {
                number = number * 10 + next;
                place++;
            }
            return number;
        }
    }
}
