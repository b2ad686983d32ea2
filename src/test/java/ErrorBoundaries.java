import java.util.Arrays;
import java.util.function.Supplier;
import java.util.function.ToIntFunction;

/** The edges of the term ERRORS, and of what the document says of calls in all. */
final class ErrorBoundaries {
    private final Sentences s;

    private ErrorBoundaries(Sentences sentences) {
        s = sentences;
    }

    static void lookAt(Sentences sentences) {
        ErrorBoundaries edges = new ErrorBoundaries(sentences);
        edges.allCalls();
        edges.byConstants();
        edges.orderOfChecks();
        edges.noneIsLast();
        edges.nothingIsChanged();
        edges.eachConstant();
    }

    private void allCalls() {
        s.of("What it is", "An object is used for at most 512 calls after it has been made;");
        WindRoses desk = new WindRoses();
        int hours = 0;
        for (int call = 1; call <= 510; call++) {
            int rose = call % 16;
            int before = hours / 16;
            if (call % 2 == 0) {
                desk.log(rose / 4, rose % 4, call % 16, 1 + call % 99, 3);
            } else {
                desk.calm(rose / 4, rose % 4, 3);
            }
            hours += 3;
            s.due("so far", before <= hours ? 1 : 0, 1);
        }
        s.due("call 511", desk.count(0), hours);
        s.due("call 512", desk.undo(), 3);
    }

    private void byConstants() {
        s.of("ERRORS", "Errors are reported by the constants below.");
        s.due("UNKNOWN", new WindRoses().log(4, 0, 0, 1, 1), WindRoses.UNKNOWN);
        s.due("BAD_VALUE", new WindRoses().log(0, 0, 0, 0, 1), WindRoses.BAD_VALUE);
        s.due("FULL", Desks.withCalm(0, 0, 9999).calm(0, 0, 1), WindRoses.FULL);
        s.due("NOT_POSSIBLE", new WindRoses().engrave(0, 0), WindRoses.NOT_POSSIBLE);
        s.due("NONE", new WindRoses().undo(), WindRoses.NONE);
    }

    private void orderOfChecks() {
        s.of("ERRORS", "Where several errors can apply, the order of the @return line is the order of the checks.");
        WindRoses full = Desks.withCalm(0, 0, 9999);
        s.due("log: UNKNOWN, BAD_VALUE, FULL", full.log(0, 0, 16, 100, 100), -1);
        s.due("log: BAD_VALUE, FULL", full.log(0, 0, 15, 100, 1), -2);
        s.due("log: FULL", full.log(0, 0, 15, 99, 1), -3);
        s.due("calm: UNKNOWN, BAD_VALUE, FULL", full.calm(0, 4, 100), -1);
        s.due("calm: BAD_VALUE, FULL", full.calm(0, 0, 100), -2);
        s.due("strike: UNKNOWN, BAD_VALUE", full.strike(0, 0, -1, 0), -1);
        s.due("turn: UNKNOWN, BAD_VALUE", full.turn(4, 0, 16), -1);
        s.due("set: UNKNOWN, BAD_VALUE", full.set(3, 1000), -1);
        s.due("set: BAD_VALUE, NOT_POSSIBLE", full.set(0, 100), -2);
        s.due("set: BAD_VALUE, NOT_POSSIBLE", full.set(1, 0), -2);
        s.due("engrave: UNKNOWN, NOT_POSSIBLE", full.engrave(0, 4), -1);
        Checks.write(full, "0.0:c*;");
        s.due("logAll: the fault, FULL", full.logAll(), -106);
        s.due("rose: UNKNOWN, BAD_VALUE", full.rose(4, 0, 10), -1);
        s.due("unlike: UNKNOWN, BAD_VALUE", full.unlike(4, 4, 0), -1);
        s.due("unlike: UNKNOWN, BAD_VALUE", full.unlike(1, 1, 4), -1);
        s.due("plate: UNKNOWN, BAD_VALUE", full.plate(0, -1, 6), -1);
    }

    private void noneIsLast() {
        s.of("ERRORS", "NONE is no error; it is returned only if no error applies.");
        WindRoses desk = new WindRoses();
        s.due("strike: BAD_VALUE", desk.strike(0, 0, 0, 100), -2);
        s.due("strike: UNKNOWN", desk.strike(4, 0, 0, 1), -1);
        s.due("strike", desk.strike(0, 0, 0, 99), -5);
        s.due("turn: BAD_VALUE", desk.turn(0, 0, 0), -2);
        s.due("turn: UNKNOWN", desk.turn(0, 4, 1), -1);
        s.due("turn", desk.turn(0, 0, 1), -5);
        s.due("engrave: NOT_POSSIBLE, though nothing is different", desk.engrave(0, 0), -4);
        s.due("renew: UNKNOWN", desk.renew(4, 0), -1);
        s.due("renew", desk.renew(3, 3), -5);
        s.due("rose: UNKNOWN", desk.rose(0, 4, 4), -1);
        s.due("rose", desk.rose(0, 0, 4), -5);
        s.due("seasonOf: UNKNOWN, port", desk.seasonOf(-1, 0), -1);
        s.due("seasonOf: UNKNOWN, class", desk.seasonOf(0, 3), -1);
        s.due("seasonOf", desk.seasonOf(0, 2), -5);
        s.due("set: UNKNOWN", desk.set(-1, 12), -1);
        s.due("set", desk.set(0, 12), -5);
    }

    // ---- "A call that returns an error or NONE changes nothing."

    private void nothingIsChanged() {
        s.of("ERRORS", "A call that returns an error or NONE changes nothing.");
        refusedLogs();
        refusedPlates();
        refusedTexts();
        refusedHistory();
        refusedTells();
    }

    /** The desk of a refused call answers all as one of the same calls without it. */
    private void unchanged(String call, Supplier<WindRoses> made, ToIntFunction<WindRoses> refused, int error) {
        for (int section = 0; section < Picture.SECTIONS; section++) {
            boolean isOfInterest = section == 0 || section == 6 || section >= 15;
            if (isOfInterest) {
                WindRoses desk = made.get();
                s.due(call, refused.applyAsInt(desk), error);
                int[] picture = Picture.section(desk, section);
                int[] other = Picture.section(made.get(), section);
                s.due(call + ", section " + section, Arrays.equals(picture, other) ? 1 : 0, 1);
            }
        }
    }

    private static WindRoses busy() {
        return HistoryBoundaries.busy();
    }

    private static WindRoses full() {
        WindRoses desk = Desks.withCalm(0, 0, 9900);
        desk.keep();
        desk.calm(0, 0, 90);
        desk.log(0, 0, 5, 20, 9);
        desk.log(1, 2, 5, 20, 9);
        desk.engrave(0, 0);
        Checks.write(desk, "1.2:c;0.0:c");
        return desk;
    }

    /** A sixth scrape would be needed. */
    private static WindRoses worn() {
        WindRoses desk = Desks.withScrapes(5);
        desk.keep();
        desk.turn(0, 0, 1);
        Checks.write(desk, "1.2:c");
        return desk;
    }

    private void refusedLogs() {
        unchanged("log: port", ErrorBoundaries::busy, desk -> desk.log(4, 0, 0, 1, 1), -1);
        unchanged("log: season", ErrorBoundaries::busy, desk -> desk.log(0, -1, 0, 1, 1), -1);
        unchanged("log: direction", ErrorBoundaries::busy, desk -> desk.log(0, 0, 16, 1, 1), -1);
        unchanged("log: speed", ErrorBoundaries::busy, desk -> desk.log(0, 0, 0, 100, 1), -2);
        unchanged("log: speed", ErrorBoundaries::busy, desk -> desk.log(0, 0, 3, 0, 1), -2);
        unchanged("log: hours", ErrorBoundaries::busy, desk -> desk.log(0, 0, 0, 1, 0), -2);
        unchanged("log: hours", ErrorBoundaries::busy, desk -> desk.log(0, 0, 0, 5, -1), -2);
        unchanged("log: full", ErrorBoundaries::full, desk -> desk.log(0, 0, 5, 20, 1), -3);
        unchanged("calm: season", ErrorBoundaries::busy, desk -> desk.calm(0, 4, 1), -1);
        unchanged("calm: hours", ErrorBoundaries::busy, desk -> desk.calm(0, 0, 100), -2);
        unchanged("calm: hours", ErrorBoundaries::busy, desk -> desk.calm(0, 0, -1), -2);
        unchanged("calm: full", ErrorBoundaries::full, desk -> desk.calm(0, 0, 99), -3);
        unchanged("strike: direction", ErrorBoundaries::busy, desk -> desk.strike(0, 0, -1, 5), -1);
        unchanged("strike: speed", ErrorBoundaries::busy, desk -> desk.strike(0, 0, 0, 0), -2);
        unchanged("strike: none", ErrorBoundaries::busy, desk -> desk.strike(0, 0, 0, 6), -5);
        unchanged("turn: port", ErrorBoundaries::busy, desk -> desk.turn(-1, 0, 1), -1);
        unchanged("turn: by", ErrorBoundaries::busy, desk -> desk.turn(0, 0, 16), -2);
        unchanged("turn: by", ErrorBoundaries::busy, desk -> desk.turn(0, 0, -1), -2);
        unchanged("turn: none", ErrorBoundaries::busy, desk -> desk.turn(3, 0, 1), -5);
        unchanged("set: unknown", ErrorBoundaries::busy, desk -> desk.set(3, 5), -1);
        unchanged("set: value", ErrorBoundaries::busy, desk -> desk.set(2, 10), -2);
        unchanged("set: value", ErrorBoundaries::busy, desk -> desk.set(0, 0), -2);
        unchanged("set: bounds", ErrorBoundaries::busy, desk -> desk.set(0, 30), -4);
        unchanged("set: bounds", ErrorBoundaries::busy, desk -> desk.set(1, 10), -4);
        unchanged("set: so already", ErrorBoundaries::busy, desk -> desk.set(0, 10), -5);
    }

    private void refusedPlates() {
        unchanged("engrave: port", ErrorBoundaries::busy, desk -> desk.engrave(4, 0), -1);
        unchanged("engrave: no hours", ErrorBoundaries::busy, desk -> desk.engrave(3, 0), -4);
        unchanged("engrave: scrapes", ErrorBoundaries::worn, desk -> desk.engrave(0, 0), -4);
        unchanged("engrave: as due", ErrorBoundaries::full, desk -> desk.engrave(0, 0), -5);
        unchanged("renew: season", ErrorBoundaries::busy, desk -> desk.renew(0, 4), -1);
        unchanged("renew: a new one", ErrorBoundaries::busy, desk -> desk.renew(1, 2), -5);
    }

    private static WindRoses withFullText() {
        WindRoses desk = Desks.withScrapes(2);
        desk.keep();
        Checks.write(desk, "0.0:c;".repeat(12) + "0.0:c*99");
        return desk;
    }

    private static WindRoses withFault() {
        WindRoses desk = busy();
        Checks.write(desk, "0.0:c;1.2:5@5*7;0.0:0@1*100");
        return desk;
    }

    private void refusedTexts() {
        unchanged("type: full", ErrorBoundaries::withFullText, desk -> desk.type('c'), -3);
        unchanged("logAll: fault", ErrorBoundaries::withFault, WindRoses::logAll, -126);
        unchanged("logAll: full", ErrorBoundaries::full, WindRoses::logAll, -3);
    }

    private static WindRoses withoutHistory() {
        WindRoses desk = Desks.withText("0.0:c");
        desk.calm(0, 0, 9);
        desk.keep();
        desk.undo();
        return desk;
    }

    private static WindRoses withoutSnapshot() {
        WindRoses desk = Desks.withScrapes(3);
        Checks.write(desk, "0.0:c");
        return desk;
    }

    private void refusedHistory() {
        unchanged("undo: empty", ErrorBoundaries::withoutHistory, WindRoses::undo, -5);
        unchanged("restore: no snapshot", ErrorBoundaries::withoutSnapshot, WindRoses::restore, -5);
    }

    private void refusedTells() {
        unchanged("rose", ErrorBoundaries::busy, desk -> desk.rose(0, 0, 10), -2);
        unchanged("rose: none", ErrorBoundaries::busy, desk -> desk.rose(2, 0, 9), -5);
        unchanged("hours", ErrorBoundaries::busy, desk -> desk.hours(0, 0, 0, 4), -1);
        unchanged("share", ErrorBoundaries::busy, desk -> desk.share(0, 0, 16, 0), -1);
        unchanged("dealt", ErrorBoundaries::busy, desk -> desk.dealt(0, 0, 0, 3), -1);
        unchanged("quarter", ErrorBoundaries::busy, desk -> desk.quarter(0, 0, 4), -1);
        unchanged("excess", ErrorBoundaries::busy, desk -> desk.excess(0, 0, 16), -1);
        unchanged("unlike", ErrorBoundaries::busy, desk -> desk.unlike(0, 0, 0), -2);
        unchanged("seasonOf", ErrorBoundaries::busy, desk -> desk.seasonOf(0, 3), -1);
        unchanged("seasonOf: none", ErrorBoundaries::busy, desk -> desk.seasonOf(2, 0), -5);
        unchanged("plate", ErrorBoundaries::busy, desk -> desk.plate(0, 0, 6), -2);
        unchanged("petal", ErrorBoundaries::busy, desk -> desk.petal(0, 0, 0, 3), -1);
        unchanged("reason", ErrorBoundaries::busy, desk -> desk.reason(4, 0), -1);
        unchanged("nextPlate: none", ErrorBoundaries::worn, WindRoses::nextPlate, -5);
        unchanged("count", ErrorBoundaries::busy, desk -> desk.count(11), -2);
    }

    // ---- the constants

    private void eachConstant() {
        s.of("ERRORS", "`UNKNOWN = -1`: There is no such port, season, direction, class or setting.");
        s.due("the constant", WindRoses.UNKNOWN, -1);
        s.due("port", new WindRoses().calm(4, 0, 1), -1);
        s.due("season", new WindRoses().calm(0, 4, 1), -1);
        s.due("direction", new WindRoses().excess(0, 0, 16), -1);
        s.due("class", new WindRoses().seasonOf(0, 3), -1);
        s.due("setting", new WindRoses().set(3, 1), -1);
        s.of("ERRORS", "`BAD_VALUE = -2`: Another argument is out of range.");
        s.due("the constant", WindRoses.BAD_VALUE, -2);
        s.due("hours", new WindRoses().calm(0, 0, 0), -2);
        s.due("by", Desks.withWind(0, 0, 0, 1, 1).turn(0, 0, 0), -2);
        s.due("what", new WindRoses().count(11), -2);
        s.of("ERRORS", "`FULL = -3`: There is no more room.");
        s.due("the constant", WindRoses.FULL, -3);
        s.due("a log", Desks.withCalm(0, 0, 9999).calm(0, 0, 1), -3);
        s.due("the text", Desks.withText("x".repeat(80)).type('x'), -3);
        s.of("ERRORS", "`NOT_POSSIBLE = -4`: This is not possible.");
        s.due("the constant", WindRoses.NOT_POSSIBLE, -4);
        s.due("set", new WindRoses().set(0, 30), -4);
        s.due("engrave", new WindRoses().engrave(0, 0), -4);
        s.of("ERRORS", "`NONE = -5`: There is no such thing; not an error.");
        s.due("the constant", WindRoses.NONE, -5);
        s.due("undo", new WindRoses().undo(), -5);
        s.due("nextPlate", new WindRoses().nextPlate(), -5);
    }
}
