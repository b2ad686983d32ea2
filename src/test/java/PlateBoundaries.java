/** The edges of the term PLATES and of the promises 7, 8 and 23 to 27: engraving, and what is told of plates. */
final class PlateBoundaries {
    private static final int[] SPEEDS = {5, 20, 60};

    private final Sentences s;

    private PlateBoundaries(Sentences sentences) {
        s = sentences;
    }

    static void lookAt(Sentences sentences) {
        PlateBoundaries edges = new PlateBoundaries(sentences);
        edges.terms();
        edges.promise7();
        edges.promise8();
        edges.promise23();
        edges.promise24();
        edges.promise25();
        edges.promise26();
        edges.promise27();
    }

    private static WindRoses withParts(int hours, int calmHours) {
        WindRoses desk = new WindRoses();
        for (int part = 0; part < 48; part++) {
            Desks.log(desk, 0, 0, part / 3, SPEEDS[part % 3], hours);
        }
        Desks.log(desk, 0, 0, 0, 0, calmHours);
        return desk;
    }

    /** An engraved plate on which so many petals, and the circle if there is one, would have to be scraped now. */
    private static WindRoses needing(int petals, boolean circle) {
        WindRoses desk = new WindRoses();
        for (int direction = 0; direction < petals; direction++) {
            desk.log(0, 0, direction, 5, 1);
        }
        Desks.log(desk, 0, 0, 0, 0, circle ? 4 : 0);
        desk.engrave(0, 0);
        desk.log(0, 0, 15, 99, 99);
        return desk;
    }

    // ---- PLATES

    private void terms() {
        partsOfAPlate();
        nineScrapesAtMost();
        engraving();
        scraping();
        allowedScrapes();
        settingOfScrapes();
        noScrapeNeeded();
        newPlate();
    }

    private void partsOfAPlate() {
        s.of("PLATES", "A plate has for each part the length of a petal (0 at first), the radius of its calm circle (0 at "
            + "first), and scrapes (0 at first,");
        for (int part = 0; part < 48; part++) {
            WindRoses desk = Desks.withWind(0, 0, part / 3, SPEEDS[part % 3], 1);
            s.due("a petal at first", desk.petal(0, 0, part / 3, part % 3), 0);
            s.due("circle at first", desk.plate(0, 0, 0), 0);
            s.due("scrapes at first", desk.plate(0, 0, 1), 0);
            desk.engrave(0, 0);
            for (int looked = 0; looked < 48; looked++) {
                s.due("petal " + looked, desk.petal(0, 0, looked / 3, looked % 3), looked == part ? 100 : 0);
            }
            s.due("no circle", desk.plate(0, 0, 0), 0);
            s.due("no scrapes", desk.plate(0, 0, 1), 0);
        }
        WindRoses calm = Desks.withCalm(0, 0, 1);
        s.due("circle at first", calm.plate(0, 0, 0), 0);
        calm.engrave(0, 0);
        s.due("circle then", calm.plate(0, 0, 0), 100);
        s.due("no petals", calm.plate(0, 0, 2), 0);
    }

    private void nineScrapesAtMost() {
        s.of("PLATES", "9 at most).");
        WindRoses desk = Desks.withScrapes(0);
        s.due("more are not allowed", desk.set(2, 10), -2);
        desk.set(2, 9);
        for (int i = 1; i <= 14; i++) {
            Desks.moveWind(desk, 1);
            s.due("after " + i, desk.plate(0, 0, 1), Math.min(i, 9));
        }
        s.due("not one more", desk.engrave(0, 0), -4);
        WindRoses two = Desks.withWind(0, 0, 0, 5, 1);
        two.log(0, 0, 1, 5, 1);
        two.set(2, 9);
        two.engrave(0, 0);
        for (int i = 1; i <= 5; i++) {
            two.turn(0, 0, 2);
            s.due("two more", two.engrave(0, 0), i <= 4 ? 4 : -4);
        }
        s.due("eight and two are too many", two.plate(0, 0, 1), 8);
    }

    private void engraving() {
        s.of("PLATES", "To engrave a plate is to make each petal as long as the share of its part, and the circle as wide "
            + "as the calm share.");
        WindRoses desk = withParts(1, 17);
        desk.log(0, 0, 15, 60, 20);
        s.due("petals and the circle", desk.engrave(0, 0), 49);
        for (int part = 0; part < 48; part++) {
            int share = desk.share(0, 0, part / 3, part % 3);
            s.due("petal " + part, desk.petal(0, 0, part / 3, part % 3), share);
            // Of 68 hours: 1 32/68 for each, 30 60/68 for the last part; 23 are missing.
            s.due("share " + part, share, part == 47 ? 31 : part < 22 ? 2 : 1);
        }
        s.due("circle, of 17 and 68", desk.plate(0, 0, 0), 20);
        desk.log(0, 0, 0, 5, 99);
        desk.calm(0, 0, 99);
        s.due("petals stay till they are engraved", desk.petal(0, 0, 0, 0), 2);
        s.due("the circle stays, too", desk.plate(0, 0, 0), 20);
    }

    private void scraping() {
        s.of("PLATES", "A petal that has to be shorter is scraped first, and so is a circle that has to be narrower: each "
            + "of these is one scrape.");
        for (int petals = 0; petals <= 5; petals++) {
            WindRoses desk = needing(petals, false);
            desk.engrave(0, 0);
            s.due(petals + " shorter, one longer", desk.plate(0, 0, 1), petals);
        }
        for (int petals = 0; petals <= 4; petals++) {
            WindRoses desk = needing(petals, true);
            desk.engrave(0, 0);
            s.due(petals + " shorter, a narrower circle", desk.plate(0, 0, 1), petals + 1);
        }
        WindRoses narrower = Desks.withCalm(0, 0, 100);
        narrower.engrave(0, 0);
        narrower.log(0, 0, 0, 5, 1);
        narrower.engrave(0, 0);
        s.due("a circle narrower by 1, a petal longer by 100", narrower.plate(0, 0, 1), 1);
        WindRoses wider = Desks.withWind(0, 0, 0, 5, 1);
        wider.engrave(0, 0);
        wider.calm(0, 0, 99);
        wider.engrave(0, 0);
        s.due("a circle wider by 99", wider.plate(0, 0, 1), 0);
        WindRoses shorter = Desks.withWind(0, 0, 0, 5, 99);
        shorter.engrave(0, 0);
        shorter.log(0, 0, 1, 5, 1);
        shorter.engrave(0, 0);
        s.due("a petal shorter by 1, one longer by 1", shorter.plate(0, 0, 1), 1);
        shorter.turn(0, 0, 1);
        shorter.engrave(0, 0);
        s.due("two shorter, one longer", shorter.plate(0, 0, 1), 2);
    }

    private void allowedScrapes() {
        s.of("PLATES", "If the plate would have more scrapes than the setting 2 tells");
        s.due("five petals", needing(5, false).engrave(0, 0), 6);
        s.due("six petals", needing(6, false).engrave(0, 0), -4);
        s.due("four petals and the circle", needing(4, true).engrave(0, 0), 6);
        s.due("five petals and the circle", needing(5, true).engrave(0, 0), -4);
        for (int allowed = 0; allowed <= 9; allowed++) {
            WindRoses enough = needing(allowed, false);
            enough.set(2, allowed);
            s.due(allowed + " of " + allowed, enough.engrave(0, 0), allowed + 1);
            WindRoses tooMany = needing(allowed + 1, false);
            tooMany.set(2, allowed);
            s.due(allowed + 1 + " of " + allowed, tooMany.engrave(0, 0), -4);
            s.due("none is made", tooMany.plate(0, 0, 1), 0);
        }
        WindRoses had = Desks.withScrapes(4);
        s.due("it has four", had.plate(0, 0, 1), 4);
        had.turn(0, 0, 1);
        s.due("and one", had.engrave(0, 0), 2);
        had.turn(0, 0, 1);
        s.due("and one more", had.engrave(0, 0), -4);
        had.log(3, 3, 0, 5, 1);
        s.due("another plate has none", had.engrave(3, 3), 1);
    }

    private void settingOfScrapes() {
        s.of("PLATES", "(0 to 9; 5 at first)");
        s.due("at first", new WindRoses().count(8), 5);
        s.range("setting 2", value -> new WindRoses().set(2, value), 0, 9, value -> value == 5 ? -5 : 5, -2);
        WindRoses desk = Desks.withScrapes(8);
        s.due("five at first", desk.plate(0, 0, 1), 5);
    }

    private void noScrapeNeeded() {
        s.of("PLATES", "(one that needs no scrape can be, however many it has).");
        for (int had = 1; had <= 9; had++) {
            WindRoses desk = Desks.withScrapes(0);
            desk.set(2, 9);
            Desks.moveWind(desk, had);
            desk.set(2, 0);
            s.due("as it is due", desk.reason(0, 0), 2);
            desk.calm(0, 0, 1);
            s.due("needs none", desk.plate(0, 0, 5), 0);
            s.due("can be", desk.reason(0, 0), 0);
            s.due("is the next one", desk.nextPlate(), 0);
            s.due("is engraved", desk.engrave(0, 0), 1);
            s.due("has as many as before", desk.plate(0, 0, 1), had);
            desk.turn(0, 0, 1);
            s.due("needs one", desk.engrave(0, 0), -4);
        }
    }

    private void newPlate() {
        s.of("PLATES", "A new plate has no petals and no scrapes.");
        WindRoses desk = withParts(2, 50);
        desk.engrave(0, 0);
        desk.set(2, 9);
        desk.log(0, 0, 0, 5, 3);
        s.due("engraved again", desk.engrave(0, 0) > 0 ? 1 : 0, 1);
        s.due("with scrapes", desk.plate(0, 0, 1) > 0 ? 1 : 0, 1);
        desk.renew(0, 0);
        for (int part = 0; part < 48; part++) {
            s.due("petal " + part, desk.petal(0, 0, part / 3, part % 3), 0);
        }
        for (int what = 0; what <= 3; what++) {
            s.due("plate(0, 0, " + what + ")", desk.plate(0, 0, what), 0);
        }
        WindRoses worn = Desks.withScrapes(5);
        worn.renew(0, 0);
        Desks.moveWind(worn, 6);
        s.due("a new one bears five again", worn.plate(0, 0, 1), 5);
    }

    // ---- Promise 7

    private void promise7() {
        s.of("Promise 7", "Engraves a plate.");
        WindRoses desk = Desks.withWind(2, 1, 8, 20, 1);
        desk.calm(2, 1, 1);
        desk.engrave(2, 1);
        s.due("petal", desk.petal(2, 1, 8, 1), 100);
        s.due("circle", desk.plate(2, 1, 0), 50);
        s.due("engraved so far", desk.count(4), 1);
        s.due("the hours stay", desk.rose(2, 1, 0), 2);

        s.of("Promise 7", "This is an act.");
        HistoryBoundaries.lookAtAct(s, Desks.withWind(0, 0, 2, 2, 2), any -> any.engrave(0, 0));
        WindRoses again = Desks.withScrapes(2);
        again.turn(0, 0, 5);
        HistoryBoundaries.lookAtAct(s, again, any -> any.engrave(0, 0));

        s.of("Promise 7", "`port`: 0 to 3");
        s.range("port", port -> Desks.withCalm(port, 2, 3).engrave(port, 2), 0, 3, 1, -1);
        s.of("Promise 7", "`season`: 0 to 3");
        s.range("season", season -> Desks.withCalm(2, season, 3).engrave(2, season), 0, 3, 1, -1);

        s.of("Promise 7", "Returns how many petals, and the circle, are different by it");
        s.due("a circle alone", Desks.withCalm(0, 0, 1).engrave(0, 0), 1);
        s.due("a petal alone", Desks.withWind(0, 0, 0, 5, 1).engrave(0, 0), 1);
        s.due("all", withParts(1, 48).engrave(0, 0), 49);
        s.due("all petals", withParts(1, 0).engrave(0, 0), 48);
        s.due("one shorter, one longer", needing(1, false).engrave(0, 0), 2);
        s.due("one shorter, one longer, the circle", needing(1, true).engrave(0, 0), 3);
        WindRoses least = Desks.withWind(0, 0, 0, 5, 99);
        s.due("with a share of less than 1", least.calm(0, 0, 1), 100);
        least.log(0, 0, 0, 5, 1);
        s.due("the circle stays 0", least.engrave(0, 0), 1);
        promise7Errors();
    }

    private void promise7Errors() {
        s.of("Promise 7", "UNKNOWN");
        s.due("port", new WindRoses().engrave(4, 0), -1);
        s.due("season", new WindRoses().engrave(0, -1), -1);

        s.of("Promise 7", "NOT_POSSIBLE if its log has no hours, or it would need too many scrapes");
        s.due("no hours", new WindRoses().engrave(0, 0), -4);
        s.due("no hours, though another log has some", Desks.withCalm(0, 1, 9).engrave(0, 0), -4);
        s.due("one calm hour is enough", Desks.withCalm(0, 0, 1).engrave(0, 0), 1);
        s.due("one windy hour is enough", Desks.withWind(0, 0, 0, 1, 1).engrave(0, 0), 1);
        WindRoses emptied = Desks.withScrapes(1);
        emptied.strike(0, 0, 1, 5);
        s.due("all hours are struck", emptied.engrave(0, 0), -4);
        s.due("the petal stays", emptied.petal(0, 0, 1, 0), 100);
        WindRoses worn = Desks.withScrapes(5);
        worn.turn(0, 0, 1);
        s.due("a sixth scrape", worn.engrave(0, 0), -4);
        s.due("is not made", worn.plate(0, 0, 1), 5);
        s.due("the petal stays", worn.petal(0, 0, 5, 0), 100);
        s.due("it is not counted", worn.count(4), 6);
        worn.set(2, 6);
        s.due("with six allowed", worn.engrave(0, 0), 2);

        s.of("Promise 7", "NONE if none is.");
        WindRoses due = Desks.withScrapes(5);
        s.due("as it is due", due.engrave(0, 0), -5);
        due.log(0, 0, 5, 5, 99);
        s.due("more hours, the same share", due.engrave(0, 0), -5);
        due.set(2, 0);
        s.due("though it has more scrapes than are allowed", due.engrave(0, 0), -5);
        s.due("engraved so far", due.count(4), 6);
    }

    // ---- Promise 8

    private void promise8() {
        s.of("Promise 8", "Puts a new plate in place of one.");
        WindRoses desk = Desks.withScrapes(2);
        desk.log(0, 1, 4, 4, 4);
        desk.engrave(0, 1);
        desk.log(1, 0, 4, 4, 4);
        desk.calm(1, 0, 4);
        desk.engrave(1, 0);
        desk.renew(1, 0);
        s.due("its petals", desk.plate(1, 0, 2), 0);
        s.due("its circle", desk.plate(1, 0, 0), 0);
        s.due("its hours stay", desk.rose(1, 0, 0), 8);
        s.due("another port's plate stays", desk.plate(0, 0, 1), 2);
        s.due("another season's plate stays", desk.petal(0, 1, 4, 0), 100);
        s.due("renewed so far", desk.count(5), 1);
        s.due("engraved so far stay", desk.count(4), 5);
        for (int rose = 0; rose < 16; rose++) {
            renewedAmongOthers(rose);
        }

        s.of("Promise 8", "This is an act.");
        HistoryBoundaries.lookAtAct(s, Desks.withScrapes(1), any -> any.renew(0, 0));

        s.of("Promise 8", "`port`: 0 to 3");
        s.range("port", port -> renewed(port, 2), 0, 3, 0, -1);
        s.of("Promise 8", "`season`: 0 to 3");
        s.range("season", season -> renewed(2, season), 0, 3, 0, -1);

        s.of("Promise 8", "Returns the scrapes of the old one");
        for (int scrapes = 0; scrapes <= 9; scrapes++) {
            WindRoses worn = Desks.withScrapes(0);
            worn.set(2, 9);
            Desks.moveWind(worn, scrapes);
            s.due(scrapes + " scrapes", worn.renew(0, 0), scrapes);
        }

        s.of("Promise 8", "UNKNOWN");
        s.due("port", new WindRoses().renew(-1, 0), -1);
        s.due("season", new WindRoses().renew(0, 4), -1);

        s.of("Promise 8", "NONE if that is without petals, circle and scrapes.");
        s.due("a new one", new WindRoses().renew(0, 0), -5);
        s.due("a new one beside hours", Desks.withCalm(0, 0, 9).renew(0, 0), -5);
        s.due("with a circle alone", renewed(3, 0), 0);
        WindRoses petal = Desks.withWind(0, 0, 15, 99, 1);
        petal.engrave(0, 0);
        s.due("with the last petal alone", petal.renew(0, 0), 0);
        s.due("then", petal.renew(0, 0), -5);
        s.due("renewed so far", petal.count(5), 1);
        WindRoses another = Desks.withScrapes(1);
        s.due("another plate is worn", another.renew(0, 1), -5);
    }

    /** Plates with petals for all parts: the last one before and the first one behind stay. */
    private void renewedAmongOthers(int rose) {
        WindRoses desk = new WindRoses();
        int before = (rose + 15) % 16;
        int behind = (rose + 1) % 16;
        int[] plates = {before, rose, behind};
        for (int plate : plates) {
            for (int part = 0; part < 48; part++) {
                desk.log(plate / 4, plate % 4, part / 3, SPEEDS[part % 3], 1);
            }
            desk.calm(plate / 4, plate % 4, 48);
            desk.engrave(plate / 4, plate % 4);
        }
        desk.renew(rose / 4, rose % 4);
        for (int plate : plates) {
            boolean isNew = plate == rose;
            s.due("petals of " + plate + " beside " + rose, desk.plate(plate / 4, plate % 4, 2), isNew ? 0 : 48);
            s.due("the longest one of " + plate, desk.plate(plate / 4, plate % 4, 3), isNew ? 0 : 3);
            s.due("circle of " + plate, desk.plate(plate / 4, plate % 4, 0), isNew ? 0 : 50);
            s.due("calm hours of " + plate, desk.rose(plate / 4, plate % 4, 2), 48);
            s.due("hours of " + plate, desk.rose(plate / 4, plate % 4, 1), 48);
        }
        desk.renew(before / 4, before % 4);
        s.due("no petals between", desk.plate(before / 4, before % 4, 2), 0);
        s.due("no longest one between", desk.plate(before / 4, before % 4, 3), 0);
    }

    private static int renewed(int port, int season) {
        WindRoses desk = Desks.withCalm(port, season, 1);
        desk.engrave(port, season);
        return desk.renew(port, season);
    }

    // ---- Promise 23

    private void promise23() {
        s.of("Promise 23", "`port`: 0 to 3");
        s.range("port", port -> Desks.withCalm(port, 2, 3).plate(port, 2, 4), 0, 3, 100, -1);
        s.of("Promise 23", "`season`: 0 to 3");
        s.range("season", season -> Desks.withCalm(2, season, 3).plate(2, season, 4), 0, 3, 100, -1);
        circlesAndScrapesTold();
        petalsTold();
        howFarTold();
        scrapesNeededTold();

        s.of("Promise 23", "Returns the number");
        s.due("none", new WindRoses().plate(3, 3, 5), 0);
        s.of("Promise 23", "UNKNOWN (port or season)");
        s.due("port, ahead of BAD_VALUE", new WindRoses().plate(4, 0, 6), -1);
        s.due("season, ahead of BAD_VALUE", new WindRoses().plate(0, -1, -1), -1);
        s.of("Promise 23", "BAD_VALUE");
        s.outside("what", what -> Desks.withScrapes(1).plate(0, 0, what), 0, 5, -2);
    }

    private void circlesAndScrapesTold() {
        s.of("Promise 23", "`what`: 0 for the radius of the circle");
        WindRoses desk = Desks.withCalm(1, 3, 2);
        s.due("at first", desk.plate(1, 3, 0), 0);
        desk.engrave(1, 3);
        s.due("the widest", desk.plate(1, 3, 0), 100);
        desk.log(1, 3, 0, 1, 1);
        s.due("not what is due", desk.plate(1, 3, 0), 100);
        desk.engrave(1, 3);
        s.due("of 2 and 1", desk.plate(1, 3, 0), 66);
        s.due("of another plate", desk.plate(3, 1, 0), 0);

        s.of("Promise 23", "1 for scrapes");
        for (int scrapes = 0; scrapes <= 5; scrapes++) {
            s.due("after " + scrapes, Desks.withScrapes(scrapes).plate(0, 0, 1), scrapes);
        }
        s.due("of another plate", Desks.withScrapes(3).plate(0, 1, 1), 0);
    }

    private void petalsTold() {
        s.of("Promise 23", "2 for petals that are longer than 0");
        s.due("of a new plate", Desks.withWind(0, 0, 0, 5, 1).plate(0, 0, 2), 0);
        WindRoses desk = Desks.withWind(0, 0, 0, 5, 9801);
        desk.log(0, 0, 15, 99, 99);
        desk.engrave(0, 0);
        s.due("of 99 and 1", desk.plate(0, 0, 2), 2);
        WindRoses full = Desks.withWind(0, 0, 0, 5, 9900);
        full.log(0, 0, 15, 99, 49);
        full.engrave(0, 0);
        s.due("of 100 and 0, though there are hours", full.plate(0, 0, 2), 1);
        WindRoses all = withParts(1, 0);
        all.engrave(0, 0);
        s.due("of all parts", all.plate(0, 0, 2), 48);
        s.due("of another plate", all.plate(0, 1, 2), 0);
        WindRoses next = Desks.withWind(2, 0, 0, 5, 1);
        next.engrave(2, 0);
        next.log(1, 2, 15, 99, 1);
        next.engrave(1, 2);
        s.due("of one between two others", next.plate(1, 3, 2), 0);

        s.of("Promise 23", "3 for the longest petal");
        s.due("of a new plate", Desks.withWind(0, 0, 0, 5, 1).plate(0, 0, 3), 0);
        s.due("of 99 and 1", desk.plate(0, 0, 3), 99);
        s.due("of 100 and 0", full.plate(0, 0, 3), 100);
        s.due("of all parts", all.plate(0, 0, 3), 3);
        s.due("of another plate", all.plate(0, 1, 3), 0);
        s.due("of one between two others", next.plate(1, 3, 3), 0);
        WindRoses last = Desks.withWind(0, 0, 15, 99, 3);
        last.log(0, 0, 0, 1, 1);
        last.engrave(0, 0);
        s.due("the last one", last.plate(0, 0, 3), 75);
        WindRoses calm = Desks.withCalm(0, 0, 1);
        calm.engrave(0, 0);
        s.due("the circle is none", calm.plate(0, 0, 3), 0);
    }

    private void howFarTold() {
        s.of("Promise 23", "4 for how far petals and the circle are from what is due (0 each, if the log has no hours), "
            + "without signs, together");
        s.due("a new plate, no hours", new WindRoses().plate(0, 0, 4), 0);
        s.due("a new plate, calm hours", Desks.withCalm(0, 0, 9).plate(0, 0, 4), 100);
        s.due("a new plate, windy hours", Desks.withWind(0, 0, 0, 1, 1).plate(0, 0, 4), 100);
        s.due("a new plate, both", withParts(1, 48).plate(0, 0, 4), 150);
        WindRoses desk = Desks.withScrapes(0);
        s.due("as it is due", desk.plate(0, 0, 4), 0);
        desk.turn(0, 0, 15);
        s.due("one shorter, one longer", desk.plate(0, 0, 4), 200);
        desk.calm(0, 0, 99);
        s.due("a circle, too", desk.plate(0, 0, 4), 299);
        desk.strike(0, 0, 15, 5);
        s.due("calm ones alone are due", desk.plate(0, 0, 4), 200);
        WindRoses emptied = Desks.withScrapes(0);
        emptied.calm(0, 0, 1);
        emptied.engrave(0, 0);
        s.due("circle", emptied.plate(0, 0, 0), 50);
        emptied.renew(0, 0);
        emptied.engrave(0, 0);
        emptied.strike(0, 0, 0, 5);
        s.due("calm ones are due", emptied.plate(0, 0, 4), 150);
        WindRoses empty = Desks.withWind(0, 0, 3, 5, 1);
        empty.log(0, 0, 4, 5, 3);
        empty.engrave(0, 0);
        empty.strike(0, 0, 3, 5);
        empty.strike(0, 0, 4, 5);
        s.due("no hours any more: 0 is due each", empty.plate(0, 0, 4), 100);
        empty.renew(0, 0);
        s.due("a new plate again", empty.plate(0, 0, 4), 0);
        WindRoses least = Desks.withWind(0, 0, 0, 5, 50);
        least.calm(0, 0, 49);
        least.engrave(0, 0);
        least.calm(0, 0, 1);
        s.due("one hundredth", least.plate(0, 0, 4), 1);
    }

    private void scrapesNeededTold() {
        s.of("Promise 23", "5 for scrapes that engraving would need now");
        s.due("a new plate, no hours", new WindRoses().plate(0, 0, 5), 0);
        s.due("a new plate", withParts(1, 9).plate(0, 0, 5), 0);
        s.due("as it is due", Desks.withScrapes(3).plate(0, 0, 5), 0);
        for (int petals = 0; petals <= 12; petals++) {
            s.due(petals + " petals, more than allowed or not", needing(petals, false).plate(0, 0, 5), petals);
            s.due(petals + " petals and the circle", needing(petals, true).plate(0, 0, 5), petals + 1);
        }
        WindRoses worn = Desks.withScrapes(5);
        worn.turn(0, 0, 1);
        s.due("without those that it has", worn.plate(0, 0, 5), 1);
        WindRoses wider = Desks.withScrapes(0);
        wider.calm(0, 0, 9);
        s.due("a wider circle needs none", wider.plate(0, 0, 5), 0);
        wider.log(1, 1, 0, 5, 9);
        s.due("a longer petal needs none", wider.plate(1, 1, 5), 0);
    }

    // ---- Promise 24

    private void promise24() {
        s.of("Promise 24", "Tells the length of a petal.");
        WindRoses desk = new WindRoses();
        for (int rose = 0; rose < 16; rose++) {
            desk.log(rose / 4, rose % 4, 2, 5, 1 + rose);
            desk.log(rose / 4, rose % 4, 3, 50, 99 - rose);
            desk.engrave(rose / 4, rose % 4);
        }
        for (int rose = 0; rose < 16; rose++) {
            s.due("first petal of the plate " + rose, desk.petal(rose / 4, rose % 4, 2, 0), 1 + rose);
            s.due("second petal of the plate " + rose, desk.petal(rose / 4, rose % 4, 3, 2), 99 - rose);
            s.due("another one of the plate " + rose, desk.petal(rose / 4, rose % 4, 3, 1), 0);
        }

        s.of("Promise 24", "`port`: 0 to 3");
        s.range("port", port -> petalAt(port, 2, 7, 1), 0, 3, 100, -1);
        s.of("Promise 24", "`season`: 0 to 3");
        s.range("season", season -> petalAt(2, season, 7, 1), 0, 3, 100, -1);
        s.of("Promise 24", "`direction`: 0 to 15");
        s.range("direction", direction -> petalAt(2, 2, direction, 1), 0, 15, 100, -1);
        s.of("Promise 24", "`kind`: the class, 0 to 2");
        s.range("class", kind -> petalAt(2, 2, 7, kind), 0, 2, 100, -1);

        s.of("Promise 24", "Returns the length");
        s.due("a new plate", Desks.withWind(0, 0, 0, 5, 1).petal(0, 0, 0, 0), 0);
        WindRoses later = Desks.withScrapes(0);
        later.set(0, 2);
        s.due("petals stay when the bounds change", later.petal(0, 0, 0, 0), 100);
        later.strike(0, 0, 0, 5);
        s.due("petals stay when hours are struck", later.petal(0, 0, 0, 0), 100);
        s.of("Promise 24", "UNKNOWN (port, season, direction or class).");
        s.due("port", new WindRoses().petal(4, 0, 0, 0), -1);
        s.due("season", new WindRoses().petal(0, 4, 0, 0), -1);
        s.due("direction", new WindRoses().petal(0, 0, 16, 0), -1);
        s.due("class", new WindRoses().petal(0, 0, 0, 3), -1);
        s.due("class", new WindRoses().petal(0, 0, 5, -1), -1);
    }

    private static int petalAt(int port, int season, int direction, int kind) {
        int speed = kind < 0 || kind > 2 ? 5 : SPEEDS[kind];
        WindRoses desk = Desks.withWind(port, season, direction, speed, 1);
        desk.engrave(port, season);
        return desk.petal(port, season, direction, kind);
    }

    // ---- Promise 25

    private void promise25() {
        s.of("Promise 25", "Tells why a plate is not engraved.");
        s.due("it can be", Desks.withCalm(0, 0, 1).reason(0, 0), 0);
        s.due("another one cannot", Desks.withCalm(0, 0, 1).reason(0, 1), 1);

        s.of("Promise 25", "`port`: 0 to 3");
        s.range("port", port -> Desks.withCalm(port, 2, 3).reason(port, 2), 0, 3, 0, -1);
        s.of("Promise 25", "`season`: 0 to 3");
        s.range("season", season -> Desks.withCalm(2, season, 3).reason(2, season), 0, 3, 0, -1);

        s.of("Promise 25", "Returns 0 if it can be");
        s.due("five scrapes of five", needing(5, false).reason(0, 0), 0);
        s.due("with windy hours", Desks.withWind(0, 0, 0, 1, 1).reason(0, 0), 0);
        WindRoses due = Desks.withScrapes(1);
        due.renew(0, 0);
        s.due("a new plate", due.reason(0, 0), 0);

        s.of("Promise 25", "the first that holds: 1 its log has no hours, 2 all is as it is due, 3 it would need too many "
            + "scrapes");
        s.due("1, and as due: a new object", new WindRoses().reason(0, 0), 1);
        s.due("2", Desks.withScrapes(1).reason(0, 0), 2);
        s.due("3", needing(6, false).reason(0, 0), 3);
        WindRoses emptied = Desks.withScrapes(5);
        emptied.strike(0, 0, 5, 5);
        s.due("1, and too many scrapes", emptied.reason(0, 0), 1);
        WindRoses worn = Desks.withScrapes(5);
        worn.set(2, 0);
        s.due("2, and more scrapes than are allowed", worn.reason(0, 0), 2);
        worn.turn(0, 0, 1);
        s.due("3", worn.reason(0, 0), 3);
        worn.set(2, 5);
        s.due("3 still", worn.reason(0, 0), 3);
        worn.set(2, 6);
        s.due("0 then", worn.reason(0, 0), 0);

        s.of("Promise 25", "UNKNOWN");
        s.due("port", new WindRoses().reason(4, 0), -1);
        s.due("season", new WindRoses().reason(0, -1), -1);
    }

    // ---- Promise 26

    private void promise26() {
        farthest();
        canBeEngraved();
        lowest();
        s.of("Promise 26", "Returns the number");
        s.due("0", Desks.withCalm(0, 0, 1).nextPlate(), 0);
        s.due("15", Desks.withCalm(3, 3, 1).nextPlate(), 15);
        s.of("Promise 26", "NONE if none can be that is not as it is due.");
        s.due("no hours", new WindRoses().nextPlate(), -5);
        s.due("all as due", Desks.withScrapes(2).nextPlate(), -5);
        s.due("too many scrapes", needing(6, false).nextPlate(), -5);
        WindRoses emptied = Desks.withScrapes(0);
        emptied.strike(0, 0, 0, 5);
        s.due("no hours any more", emptied.nextPlate(), -5);
        WindRoses both = needing(6, false);
        both.calm(3, 3, 1);
        s.due("one can be", both.nextPlate(), 15);
        both.engrave(3, 3);
        s.due("and then none", both.nextPlate(), -5);
    }

    private void farthest() {
        s.of("Promise 26", "Finds the plate that is farthest from what is due");
        for (int rose = 0; rose < 16; rose++) {
            WindRoses desk = Desks.withWind(rose / 4, rose % 4, 0, 5, 50);
            s.due("the only one", desk.nextPlate(), rose);
            int other = (rose + 7) % 16;
            desk.log(other / 4, other % 4, 0, 5, 50);
            desk.calm(rose / 4, rose % 4, 50);
            desk.calm(other / 4, other % 4, 49);
            s.due("150 against 149", desk.nextPlate(), rose);
            desk.calm(other / 4, other % 4, 4);
            s.due("150 against 151", desk.nextPlate(), other);
        }
    }

    private void canBeEngraved() {
        s.of("Promise 26", "of those that can be engraved now");
        WindRoses desk = Desks.withScrapes(5);
        desk.turn(0, 0, 1);
        desk.log(2, 3, 0, 5, 1);
        s.due("not 200 with too many scrapes, but 100", desk.nextPlate(), 11);
        desk.set(2, 6);
        s.due("200 when they are allowed", desk.nextPlate(), 0);
        desk.strike(0, 0, 6, 5);
        s.due("not one without hours", desk.nextPlate(), 11);
        WindRoses least = Desks.withWind(0, 0, 0, 5, 50);
        least.calm(0, 0, 49);
        least.engrave(0, 0);
        least.calm(0, 0, 1);
        s.due("far by 1", least.nextPlate(), 0);
    }

    private void lowest() {
        s.of("Promise 26", "as 4 times its port, and its season; of several the lowest.");
        WindRoses desk = new WindRoses();
        for (int rose = 15; rose >= 0; rose--) {
            desk.log(rose / 4, rose % 4, rose, 5, 1);
            s.due("of those from " + rose, desk.nextPlate(), rose);
        }
        for (int rose = 0; rose < 16; rose++) {
            s.due("the next one", desk.nextPlate(), rose);
            desk.engrave(rose / 4, rose % 4);
        }
        s.due("no more", desk.nextPlate(), -5);
    }

    // ---- Promise 27

    private void promise27() {
        hoursCounted();
        platesNotAsDue();
        scrapesCounted();
        acts();
        settings();
        statesAndText();
        s.of("Promise 27", "Returns the number");
        s.due("none", new WindRoses().count(0), 0);
        s.of("Promise 27", "BAD_VALUE.");
        s.outside("what", what -> Desks.withScrapes(1).count(what), 0, 10, -2);
    }

    private void hoursCounted() {
        s.of("Promise 27", "`what`: 0 for hours of all logs, 1 for calm ones");
        WindRoses desk = new WindRoses();
        int hours = 0;
        int calm = 0;
        for (int rose = 0; rose < 16; rose++) {
            desk.log(rose / 4, rose % 4, rose, 1 + rose, 99);
            desk.calm(rose / 4, rose % 4, 1 + rose);
            hours += 100 + rose;
            calm += 1 + rose;
            s.due("hours", desk.count(0), hours);
            s.due("calm ones", desk.count(1), calm);
        }
        desk.strike(0, 0, 0, 1);
        s.due("struck", desk.count(0), hours - 99);
        s.due("calm ones are not struck", desk.count(1), calm);
        WindRoses two = Desks.withWind(0, 0, 0, 1, 9999);
        Desks.log(two, 3, 3, 0, 0, 9999);
        s.due("more than a log has at most", two.count(0), 19998);
        s.due("calm ones of them", two.count(1), 9999);
    }

    private void platesNotAsDue() {
        s.of("Promise 27", "2 for plates that are not as they are due");
        WindRoses desk = new WindRoses();
        s.due("no hours, new plates", desk.count(2), 0);
        for (int rose = 0; rose < 16; rose++) {
            desk.calm(rose / 4, rose % 4, 1);
            s.due("with hours", desk.count(2), 1 + rose);
        }
        for (int rose = 0; rose < 16; rose++) {
            desk.engrave(rose / 4, rose % 4);
            s.due("engraved", desk.count(2), 15 - rose);
        }
        s.due("too many scrapes", needing(6, false).count(2), 1);
        WindRoses emptied = Desks.withScrapes(0);
        s.due("as due", emptied.count(2), 0);
        emptied.strike(0, 0, 0, 5);
        s.due("without hours any more, but with a petal", emptied.count(2), 1);
        WindRoses least = Desks.withWind(3, 3, 0, 5, 50);
        least.calm(3, 3, 49);
        least.engrave(3, 3);
        least.calm(3, 3, 1);
        s.due("far by 1", least.count(2), 1);
    }

    private void scrapesCounted() {
        s.of("Promise 27", "3 for scrapes of all plates");
        WindRoses desk = new WindRoses();
        for (int rose = 0; rose < 16; rose++) {
            desk.log(rose / 4, rose % 4, 0, 5, 1);
            desk.engrave(rose / 4, rose % 4);
            s.due("first", desk.count(3), rose);
            desk.turn(rose / 4, rose % 4, 1);
            desk.engrave(rose / 4, rose % 4);
        }
        s.due("one each", desk.count(3), 16);
        desk.renew(3, 3);
        s.due("without those of an old plate", desk.count(3), 15);
    }

    private void acts() {
        s.of("Promise 27", "4 for plates engraved so far");
        WindRoses desk = Desks.withScrapes(2);
        s.due("one plate, three times", desk.count(4), 3);
        desk.engrave(0, 0);
        s.due("not if it was as due", desk.count(4), 3);
        desk.engrave(1, 1);
        s.due("not if it was not possible", desk.count(4), 3);
        desk.renew(0, 0);
        s.due("a new plate does not count back", desk.count(4), 3);
        desk.engrave(0, 0);
        s.due("once more", desk.count(4), 4);

        s.of("Promise 27", "5 for new plates so far");
        s.due("one", desk.count(5), 1);
        desk.renew(1, 1);
        s.due("not if the old one was new", desk.count(5), 1);
        desk.renew(0, 0);
        s.due("two", desk.count(5), 2);
        desk.undo();
        s.due("without one that is undone", desk.count(5), 1);
    }

    private void settings() {
        s.of("Promise 27", "6 to 8 for the settings");
        WindRoses desk = new WindRoses();
        int[] want = {12, 30, 5};
        int[] next = {1, 99, 0};
        for (int which = 0; which < 3; which++) {
            s.due("at first", desk.count(6 + which), want[which]);
            desk.set(which, next[which]);
            for (int looked = 0; looked < 3; looked++) {
                s.due("then", desk.count(6 + looked), looked <= which ? next[looked] : want[looked]);
            }
        }
    }

    private void statesAndText() {
        s.of("Promise 27", "9 for the states in the history");
        WindRoses desk = new WindRoses();
        s.due("at first", desk.count(9), 0);
        for (int i = 1; i <= 6; i++) {
            desk.calm(0, 0, 1);
            s.due("after " + i, desk.count(9), Math.min(i, 4));
        }
        desk.undo();
        s.due("after undo", desk.count(9), 3);

        s.of("Promise 27", "10 for the length of the text");
        s.due("at first", desk.count(10), 0);
        for (int i = 1; i <= 82; i++) {
            desk.type(';');
            s.due("after " + i, desk.count(10), Math.min(i, 80));
        }
        desk.logAll();
        s.due("after logAll", desk.count(10), 80);
        desk.clearText();
        s.due("after clearText", desk.count(10), 0);
    }
}
