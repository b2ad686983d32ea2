/** Promises 7, 8 and 23 to 27: engrave, renew, plate, petal, reason, nextPlate, count. */
public final class PlatesTest {
    private static final Checks checks = new Checks();

    private static void due(String call, long got, long want) {
        checks.due(call, got, want);
    }

    public static void main(String[] args) {
        engraveFirst();
        engraveAgain();
        circleScrape();
        tooManyScrapes();
        noScrapeNeeded();
        renew();
        neighbours();
        shortestGap();
        plateTold();
        emptiedLog();
        petalTold();
        reasonOrder();
        nextPlate();
        nextPlateLeavesOut();
        counts();
        wrongArguments();
        checks.end("PlatesTest");
    }

    private static void engraveFirst() {
        WindRoses desk = new WindRoses();
        due("7: no hours", desk.engrave(0, 0), -4);
        desk.calm(0, 0, 1);
        due("7: calm alone", desk.engrave(0, 0), 1);
        due("7: circle", desk.plate(0, 0, 0), 100);
        due("7: as due", desk.engrave(0, 0), -5);
        desk.log(1, 0, 2, 12, 3);
        desk.log(1, 0, 2, 30, 1);
        due("7: windy alone", desk.engrave(1, 0), 2);
        due("7: petal", desk.petal(1, 0, 2, 1), 75);
        due("7: petal", desk.petal(1, 0, 2, 2), 25);
        due("7: no circle", desk.plate(1, 0, 0), 0);
        due("7: no scrapes", desk.count(3), 0);
        due("7: an act", desk.undo(), 3);
        due("7: undone", desk.petal(1, 0, 2, 1), 0);
        due("7: others stay", desk.plate(0, 0, 0), 100);
        due("7: count undone too", desk.count(4), 1);
    }

    private static void engraveAgain() {
        WindRoses desk = new WindRoses();
        desk.log(2, 3, 0, 5, 1);
        desk.engrave(2, 3);
        desk.log(2, 3, 8, 5, 1);
        due("23: one scrape needed", desk.plate(2, 3, 5), 1);
        due("7: two are different", desk.engrave(2, 3), 2);
        due("7: one scrape", desk.plate(2, 3, 1), 1);
        due("7: shorter", desk.petal(2, 3, 0, 0), 50);
        due("7: longer", desk.petal(2, 3, 8, 0), 50);
        desk.log(2, 3, 8, 50, 2);
        due("7: three are different", desk.engrave(2, 3), 3);
        due("7: scrapes add up", desk.plate(2, 3, 1), 3);
        due("7: all scrapes", desk.count(3), 3);
        due("7: engraved", desk.count(4), 3);
    }

    private static void circleScrape() {
        WindRoses desk = new WindRoses();
        desk.log(0, 3, 0, 5, 1);
        desk.calm(0, 3, 1);
        due("7: petal and circle", desk.engrave(0, 3), 2);
        desk.calm(0, 3, 2);
        due("7: a wider circle", desk.engrave(0, 3), 1);
        due("7: is no scrape", desk.plate(0, 3, 1), 0);
        desk.log(0, 3, 0, 5, 4);
        due("23: circle needs a scrape", desk.plate(0, 3, 5), 1);
        due("7: a narrower circle", desk.engrave(0, 3), 1);
        due("7: is a scrape", desk.plate(0, 3, 1), 1);
        due("7: circle", desk.plate(0, 3, 0), 37);
    }

    /** Each time all goes to one more direction, so that the petal before has to be scraped. */
    private static void moveWind(WindRoses desk, int times) {
        for (int i = 0; i < times; i++) {
            desk.turn(0, 0, 1);
            desk.engrave(0, 0);
        }
    }

    private static void tooManyScrapes() {
        WindRoses desk = new WindRoses();
        desk.log(0, 0, 0, 5, 1);
        desk.engrave(0, 0);
        moveWind(desk, 5);
        due("7: five scrapes", desk.plate(0, 0, 1), 5);
        due("7: five turns", desk.petal(0, 0, 5, 0), 100);
        desk.turn(0, 0, 1);
        due("25: a sixth scrape", desk.reason(0, 0), 3);
        due("7: a sixth scrape", desk.engrave(0, 0), -4);
        due("7: is not made", desk.petal(0, 0, 5, 0), 100);
        due("7: nor counted", desk.plate(0, 0, 1), 5);
        due("7: nor counted", desk.count(4), 6);
        desk.set(2, 6);
        due("25: now it can be", desk.reason(0, 0), 0);
        due("7: now it can be", desk.engrave(0, 0), 2);
        desk.set(2, 9);
        moveWind(desk, 5);
        due("7: nine at most", desk.plate(0, 0, 1), 9);
        due("7: nine at most", desk.reason(0, 0), 3);
        desk.set(2, 0);
        due("7: none is allowed", desk.reason(0, 0), 3);
        desk.log(1, 0, 0, 5, 1);
        due("7: a first engraving needs none", desk.engrave(1, 0), 1);
    }

    private static void noScrapeNeeded() {
        WindRoses desk = new WindRoses();
        desk.log(0, 0, 0, 5, 1);
        desk.engrave(0, 0);
        moveWind(desk, 3);
        due("7: three scrapes", desk.plate(0, 0, 1), 3);
        desk.set(2, 1);
        desk.calm(0, 0, 1);
        due("23: no scrape needed", desk.plate(0, 0, 5), 0);
        due("25: more scrapes than allowed", desk.reason(0, 0), 0);
        due("26: it can be engraved", desk.nextPlate(), 0);
        due("7: but none needed", desk.engrave(0, 0), 1);
        due("7: scrapes stay", desk.plate(0, 0, 1), 3);
        due("25: as due before scrapes", desk.reason(0, 0), 2);
        due("7: as due", desk.engrave(0, 0), -5);
    }

    private static void renew() {
        WindRoses desk = new WindRoses();
        due("8: new as it is", desk.renew(0, 0), -5);
        desk.calm(0, 0, 1);
        desk.engrave(0, 0);
        due("8: with a circle alone", desk.renew(0, 0), 0);
        due("8: no circle", desk.plate(0, 0, 0), 0);
        due("8: once more", desk.renew(0, 0), -5);
        desk.log(0, 1, 0, 5, 1);
        desk.engrave(0, 1);
        due("8: with a petal alone", desk.renew(0, 1), 0);
        due("8: no petal", desk.petal(0, 1, 0, 0), 0);
        desk.log(1, 2, 0, 5, 1);
        desk.engrave(1, 2);
        desk.turn(1, 2, 1);
        desk.engrave(1, 2);
        due("8: scrapes of the old one", desk.renew(1, 2), 1);
        due("8: no scrapes", desk.plate(1, 2, 1), 0);
        due("8: no petals", desk.plate(1, 2, 2), 0);
        due("8: renewed", desk.count(5), 3);
        due("8: hours stay", desk.rose(1, 2, 0), 1);
        due("8: an act", desk.undo(), 3);
        due("8: undone", desk.plate(1, 2, 1), 1);
        due("8: undone", desk.count(5), 2);
        due("8: port", desk.renew(4, 0), -1);
        due("8: port", desk.renew(-1, 0), -1);
        due("8: season", desk.renew(0, 4), -1);
        due("8: season", desk.renew(0, -1), -1);
    }

    private static void neighbours() {
        WindRoses desk = new WindRoses();
        desk.log(2, 0, 0, 5, 1);
        desk.engrave(2, 0);
        due("23: petals of the plate before", desk.plate(1, 3, 2), 0);
        due("23: longest of the plate before", desk.plate(1, 3, 3), 0);
        desk.log(1, 3, 15, 50, 99);
        desk.log(1, 3, 0, 5, 1);
        desk.calm(1, 3, 50);
        desk.calm(2, 0, 1);
        desk.calm(1, 2, 1);
        desk.engrave(1, 3);
        desk.engrave(1, 2);
        desk.engrave(2, 0);
        due("23: a petal of the length 1", desk.petal(1, 3, 0, 0), 1);
        due("23: it is counted", desk.plate(1, 3, 2), 2);
        due("23: the last petal", desk.plate(1, 3, 3), 99);
        due("8: with scrapes of none", desk.renew(1, 3), 0);
        for (int what = 0; what <= 3; what++) {
            due("8: plate(1, 3, " + what + ")", desk.plate(1, 3, what), 0);
        }
        due("8: the next plate stays", desk.petal(2, 0, 0, 0), 100);
        due("8: its circle stays", desk.plate(2, 0, 0), 50);
        due("8: the circle before stays", desk.plate(1, 2, 0), 100);
    }

    private static void shortestGap() {
        WindRoses desk = new WindRoses();
        desk.log(0, 0, 0, 5, 50);
        desk.calm(0, 0, 49);
        desk.engrave(0, 0);
        due("23: circle", desk.plate(0, 0, 0), 49);
        desk.calm(0, 0, 1);
        due("23: one hundredth", desk.plate(0, 0, 4), 1);
        due("26: one hundredth", desk.nextPlate(), 0);
        due("7: the circle alone", desk.engrave(0, 0), 1);
        due("26: none", desk.nextPlate(), -5);
    }

    private static void plateTold() {
        WindRoses desk = new WindRoses();
        desk.log(3, 1, 0, 5, 5);
        desk.log(3, 1, 1, 5, 3);
        desk.log(3, 1, 2, 5, 2);
        desk.calm(3, 1, 10);
        due("23: far before engraving", desk.plate(3, 1, 4), 150);
        due("23: no scrapes before", desk.plate(3, 1, 5), 0);
        desk.engrave(3, 1);
        int[] want = {50, 0, 3, 50, 0, 0};
        for (int what = 0; what < want.length; what++) {
            due("23: plate(3, 1, " + what + ")", desk.plate(3, 1, what), want[what]);
        }
        desk.log(3, 1, 2, 5, 10);
        // Shares are 25, 15 and 60 of 20 windy hours, 33 of 30 in all.
        due("23: far then", desk.plate(3, 1, 4), 25 + 15 + 40 + 17);
        due("23: scrapes then", desk.plate(3, 1, 5), 3);
        due("23: longest still", desk.plate(3, 1, 3), 50);
    }

    private static void emptiedLog() {
        WindRoses desk = new WindRoses();
        desk.log(0, 0, 0, 5, 1);
        desk.log(0, 0, 1, 5, 1);
        desk.engrave(0, 0);
        desk.strike(0, 0, 0, 5);
        desk.strike(0, 0, 1, 5);
        due("23: nothing is due", desk.plate(0, 0, 4), 100);
        due("23: all would be scraped", desk.plate(0, 0, 5), 2);
        due("25: no hours", desk.reason(0, 0), 1);
        due("7: no hours", desk.engrave(0, 0), -4);
        due("26: it cannot be engraved", desk.nextPlate(), -5);
        due("27: not as due", desk.count(2), 1);
        desk.calm(0, 0, 1);
        due("27: still not as due", desk.count(2), 1);
        due("7: calm alone", desk.engrave(0, 0), 3);
        due("7: two petals scraped", desk.plate(0, 0, 1), 2);
    }

    private static void petalTold() {
        WindRoses desk = new WindRoses();
        desk.log(0, 2, 15, 99, 1);
        due("24: not yet cut", desk.petal(0, 2, 15, 2), 0);
        desk.engrave(0, 2);
        due("24: cut", desk.petal(0, 2, 15, 2), 100);
        due("24: another class", desk.petal(0, 2, 15, 1), 0);
        due("24: another plate", desk.petal(2, 0, 15, 2), 0);
        desk.set(1, 99);
        desk.log(0, 2, 15, 98, 3);
        due("24: petals stay", desk.petal(0, 2, 15, 2), 100);
        due("23: but are not as due", desk.plate(0, 2, 4), 150);
    }

    private static void reasonOrder() {
        WindRoses desk = new WindRoses();
        due("25: no hours before as due", desk.reason(0, 0), 1);
        desk.log(0, 0, 0, 5, 1);
        due("25: can be", desk.reason(0, 0), 0);
        desk.engrave(0, 0);
        due("25: as due", desk.reason(0, 0), 2);
        desk.set(2, 0);
        desk.turn(0, 0, 1);
        due("25: too many scrapes", desk.reason(0, 0), 3);
        desk.strike(0, 0, 1, 5);
        due("25: no hours before scrapes", desk.reason(0, 0), 1);
    }

    private static void nextPlate() {
        WindRoses desk = new WindRoses();
        desk.log(3, 3, 0, 5, 1);
        due("26: the only one", desk.nextPlate(), 15);
        desk.log(2, 1, 0, 5, 1);
        due("26: of several the lowest", desk.nextPlate(), 9);
        desk.calm(3, 3, 1);
        due("26: the farthest", desk.nextPlate(), 15);
        desk.engrave(3, 3);
        due("26: not one that is as due", desk.nextPlate(), 9);
        desk.engrave(2, 1);
        due("26: none", desk.nextPlate(), -5);
        desk.log(2, 1, 1, 5, 1);
        desk.log(0, 3, 0, 5, 1);
        due("26: farther in like numbers", desk.nextPlate(), 3);
    }

    private static void nextPlateLeavesOut() {
        WindRoses desk = new WindRoses();
        desk.log(0, 0, 0, 5, 1);
        desk.engrave(0, 0);
        desk.turn(0, 0, 1);
        desk.log(0, 1, 0, 5, 99);
        desk.calm(0, 1, 9);
        due("26: farther", desk.nextPlate(), 0);
        desk.set(2, 0);
        due("26: not one with too many scrapes", desk.nextPlate(), 1);
        desk.set(2, 1);
        due("26: now again", desk.nextPlate(), 0);
    }

    private static void counts() {
        WindRoses desk = new WindRoses();
        desk.log(0, 0, 0, 5, 7);
        desk.log(3, 3, 0, 5, 8);
        desk.calm(3, 3, 2);
        desk.calm(1, 1, 3);
        due("27: hours", desk.count(0), 20);
        due("27: calm ones", desk.count(1), 5);
        due("27: not as due", desk.count(2), 3);
        desk.engrave(0, 0);
        desk.engrave(3, 3);
        due("27: not as due", desk.count(2), 1);
        desk.turn(0, 0, 1);
        desk.turn(3, 3, 1);
        desk.engrave(0, 0);
        desk.engrave(3, 3);
        due("27: scrapes", desk.count(3), 2);
        due("27: engraved", desk.count(4), 4);
        desk.renew(0, 0);
        due("27: renewed", desk.count(5), 1);
        due("27: engraved stay", desk.count(4), 4);
        due("27: scrapes", desk.count(3), 1);
        desk.set(0, 3);
        desk.set(1, 4);
        desk.set(2, 6);
        due("27: setting 0", desk.count(6), 3);
        due("27: setting 1", desk.count(7), 4);
        due("27: setting 2", desk.count(8), 6);
        due("27: history", desk.count(9), 4);
        desk.type('x');
        desk.type('y');
        due("27: text", desk.count(10), 2);
        due("27: 11", desk.count(11), -2);
        due("27: -1", desk.count(-1), -2);
        due("27: least", desk.count(Integer.MIN_VALUE), -2);
        due("27: greatest", desk.count(Integer.MAX_VALUE), -2);
    }

    private static void wrongArguments() {
        WindRoses desk = new WindRoses();
        int[] outside = {-1, 4, Integer.MIN_VALUE, Integer.MAX_VALUE};
        for (int wrong : outside) {
            due("7: port", desk.engrave(wrong, 0), -1);
            due("7: season", desk.engrave(0, wrong), -1);
            due("23: port", desk.plate(wrong, 0, 6), -1);
            due("23: season", desk.plate(0, wrong, 0), -1);
            due("24: port", desk.petal(wrong, 0, 0, 0), -1);
            due("24: season", desk.petal(0, wrong, 0, 0), -1);
            due("24: class", desk.petal(0, 0, 0, wrong), -1);
            due("25: port", desk.reason(wrong, 0), -1);
            due("25: season", desk.reason(0, wrong), -1);
        }
        due("24: class 3", desk.petal(0, 0, 0, 3), -1);
        due("24: direction 16", desk.petal(0, 0, 16, 0), -1);
        due("24: direction -1", desk.petal(0, 0, -1, 0), -1);
        due("23: what 6", desk.plate(0, 0, 6), -2);
        due("23: what -1", desk.plate(0, 0, -1), -2);
    }
}
