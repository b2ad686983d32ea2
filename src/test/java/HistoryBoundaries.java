import java.util.Arrays;
import java.util.function.ToIntFunction;

/** The edges of the term HISTORY and of the promises 12 to 14: undo, keep, restore. */
final class HistoryBoundaries {
    private static final int ACTS = 9;

    private final Sentences s;

    private HistoryBoundaries(Sentences sentences) {
        s = sentences;
    }

    static void lookAt(Sentences sentences) {
        HistoryBoundaries edges = new HistoryBoundaries(sentences);
        edges.terms();
        edges.promise12();
        edges.promise13();
        edges.promise14();
    }

    /** An act records one state, which undo brings back. */
    static void lookAtAct(Sentences s, WindRoses desk, ToIntFunction<WindRoses> act) {
        int states = desk.count(9);
        int[] before = Picture.brief(desk);
        s.due("is no error", act.applyAsInt(desk) >= 0 ? 1 : 0, 1);
        s.due("changes the state", Arrays.equals(Picture.brief(desk), before) ? 1 : 0, 0);
        s.due("records one state", desk.count(9), Math.min(states + 1, 4));
        s.due("which is taken back", desk.undo(), Math.min(states, 3));
        s.due("which is as before", Arrays.equals(Picture.brief(desk), before) ? 1 : 0, 1);
    }

    // ---- HISTORY

    private void terms() {
        fourStates();
        oldestIsDropped();
        latestIsRestored();
        actsRecord();
        refusedActsRecordNothing();
        noActs();
        oneSnapshot();
        everythingOfAState();
        allButTheTextTheHistoryAndTheSnapshot();
    }

    private void fourStates() {
        s.of("HISTORY", "A history of at most 4 states is kept;");
        WindRoses desk = new WindRoses();
        s.due("at first", desk.count(9), 0);
        for (int acts = 1; acts <= 12; acts++) {
            desk.calm(0, 0, 1);
            s.due("after " + acts, desk.count(9), Math.min(acts, 4));
        }
    }

    private void oldestIsDropped() {
        s.of("HISTORY", "when one more is recorded, the oldest one is dropped;");
        for (int acts = 0; acts <= 13; acts++) {
            WindRoses desk = Desks.withCalm(0, 0, 99 * acts);
            int kept = Math.min(acts, 4);
            for (int undone = 1; undone <= kept; undone++) {
                s.due("undo of " + acts, desk.undo(), kept - undone);
                s.due("hours then", desk.count(0), 99 * (acts - undone));
            }
            s.due("no more of " + acts, desk.undo(), -5);
            s.due("hours of the dropped ones stay", desk.count(0), 99 * (acts - kept));
        }
    }

    private void latestIsRestored() {
        s.of("HISTORY", "undo() removes and restores the latest one.");
        WindRoses desk = Desks.withCalm(0, 0, 198);
        s.due("one is left", desk.undo(), 1);
        s.due("the latest", desk.count(0), 99);
        desk.log(1, 1, 1, 1, 5);
        s.due("another one in its place", desk.count(9), 2);
        s.due("it is the latest", desk.undo(), 1);
        s.due("hours", desk.count(0), 99);
        s.due("the first one", desk.undo(), 0);
        s.due("no hours", desk.count(0), 0);
        WindRoses full = Desks.withCalm(0, 0, 99 * 6);
        full.undo();
        full.undo();
        full.calm(0, 0, 1);
        full.calm(0, 0, 2);
        full.calm(0, 0, 3);
        int[] hours = {399, 397, 396, 297};
        for (int want : hours) {
            full.undo();
            s.due("across the drop", full.count(0), want);
        }
        s.due("no more", full.undo(), -5);
    }

    private void actsRecord() {
        s.of("HISTORY", "Each call of a method that is described as an act,");
        for (int act = 0; act < ACTS; act++) {
            int one = act;
            lookAtAct(s, busy(), desk -> doOne(desk, one));
        }
    }

    /** Hours, plates, scrapes, a snapshot, a text and all states that are kept. */
    static WindRoses busy() {
        WindRoses desk = new WindRoses();
        desk.log(0, 0, 0, 5, 7);
        desk.log(0, 0, 3, 20, 2);
        desk.calm(0, 0, 4);
        desk.engrave(0, 0);
        desk.log(0, 0, 9, 60, 30);
        desk.engrave(0, 0);
        desk.log(1, 2, 15, 99, 1);
        desk.engrave(1, 2);
        desk.keep();
        desk.renew(1, 2);
        desk.set(0, 10);
        desk.set(2, 8);
        desk.log(3, 3, 8, 8, 8);
        desk.turn(0, 0, 1);
        desk.turn(0, 0, 15);
        desk.log(0, 0, 9, 60, 30);
        Checks.write(desk, "0.0:5@6*7;1.1:c");
        return desk;
    }

    private void refusedActsRecordNothing() {
        s.of("HISTORY", "and returns no error and not NONE, records the state that was before it.");
        WindRoses desk = new WindRoses();
        s.due("log", desk.log(0, 0, 0, 1, 100), -2);
        s.due("calm", desk.calm(4, 0, 1), -1);
        s.due("strike", desk.strike(0, 0, 0, 1), -5);
        s.due("turn", desk.turn(0, 0, 1), -5);
        s.due("set", desk.set(0, 12), -5);
        s.due("set", desk.set(0, 30), -4);
        s.due("engrave", desk.engrave(0, 0), -4);
        s.due("renew", desk.renew(0, 0), -5);
        s.due("logAll", desk.logAll(), -100);
        s.due("restore", desk.restore(), -5);
        s.due("undo", desk.undo(), -5);
        s.due("none is recorded", desk.count(9), 0);
        desk.calm(0, 0, 1);
        desk.engrave(0, 0);
        s.due("engrave", desk.engrave(0, 0), -5);
        s.due("two are recorded", desk.count(9), 2);
        WindRoses full = Desks.withCalm(0, 0, 9999);
        s.due("log", full.log(0, 0, 0, 1, 1), -3);
        s.due("calm", full.calm(0, 0, 1), -3);
        Checks.write(full, "0.0:c");
        s.due("logAll", full.logAll(), -3);
        full.undo();
        s.due("the act before them", full.count(0), 9900);
    }

    private void noActs() {
        s.of("HISTORY", "method that is described as an act");
        WindRoses desk = Desks.withCalm(0, 0, 1);
        desk.keep();
        desk.type('x');
        desk.clearText();
        desk.rose(0, 0, 0);
        desk.hours(0, 0, 0, 0);
        desk.share(0, 0, 0, 0);
        desk.dealt(0, 0, 0, 0);
        desk.quarter(0, 0, 0);
        desk.excess(0, 0, 0);
        desk.unlike(0, 1, 0);
        desk.seasonOf(0, 0);
        desk.plate(0, 0, 5);
        desk.petal(0, 0, 0, 0);
        desk.reason(0, 0);
        desk.nextPlate();
        desk.count(2);
        s.due("states", desk.count(9), 1);
        s.due("undo is none itself", desk.undo(), 0);
        s.due("hours", desk.count(0), 0);
    }

    private void oneSnapshot() {
        s.of("HISTORY", "There is one snapshot, empty at first.");
        WindRoses desk = new WindRoses();
        s.due("at first", desk.restore(), -5);
        desk.calm(0, 0, 1);
        s.due("acts take none", desk.restore(), -5);
        desk.keep();
        desk.calm(0, 0, 2);
        desk.keep();
        desk.calm(0, 0, 4);
        s.due("the second one", desk.restore(), 3);
        desk.undo();
        desk.undo();
        desk.undo();
        s.due("the first one is gone", desk.restore(), 3);
    }

    private void everythingOfAState() {
        s.of("HISTORY", "A state is everything but");
        for (int section = 0; section < Picture.HISTORY_SECTION; section++) {
            int[] before = Picture.section(busy(), section);
            WindRoses restored = busy();
            restored.keep();
            changeEverything(restored);
            restored.restore();
            s.due("restored, section " + section, Arrays.equals(Picture.section(restored, section), before) ? 1 : 0, 1);
            WindRoses undone = busy();
            undone.keep();
            changeEverything(undone);
            int[] changed = Picture.section(undone, section);
            s.due("changed, section " + section, Arrays.equals(changed, before) ? 1 : 0, 0);
            WindRoses again = busy();
            again.keep();
            changeEverything(again);
            again.restore();
            again.undo();
            s.due("undone, section " + section, Arrays.equals(Picture.section(again, section), changed) ? 1 : 0, 1);
        }
    }

    private static void changeEverything(WindRoses desk) {
        desk.set(2, 9);
        desk.set(0, 3);
        desk.set(1, 61);
        desk.strike(0, 0, 0, 5);
        desk.turn(0, 0, 6);
        for (int rose = 0; rose < 16; rose++) {
            desk.log(rose / 4, rose % 4, rose, 40, 9);
            desk.calm(rose / 4, rose % 4, 2 + rose);
            desk.engrave(rose / 4, rose % 4);
        }
        desk.renew(0, 0);
        desk.renew(2, 1);
    }

    private void allButTheTextTheHistoryAndTheSnapshot() {
        s.of("HISTORY", "the text, the history and the snapshot.");
        WindRoses text = Desks.withText("0.0:c");
        text.calm(0, 0, 1);
        text.keep();
        text.type('*');
        text.type('7');
        s.due("undo", text.undo(), 0);
        s.due("length after undo", text.count(10), 7);
        s.due("restore", text.restore(), 1);
        s.due("length after restore", text.count(10), 7);
        s.due("the text after both", text.logAll(), 7);

        WindRoses history = Desks.withCalm(0, 0, 99);
        history.keep();
        history.calm(0, 0, 1);
        history.calm(0, 0, 1);
        s.due("restore", history.restore(), 99);
        s.due("states after restore", history.count(9), 4);
        s.due("undo", history.undo(), 3);
        s.due("the state before restore", history.count(0), 101);

        WindRoses snapshot = Desks.withCalm(0, 0, 99);
        snapshot.keep();
        snapshot.undo();
        s.due("hours after undo", snapshot.count(0), 0);
        s.due("the snapshot after undo", snapshot.restore(), 99);
        snapshot.calm(0, 0, 1);
        snapshot.keep();
        snapshot.undo();
        snapshot.undo();
        s.due("the later snapshot after undo", snapshot.restore(), 100);
    }

    // ---- Promise 12

    private void promise12() {
        s.of("Promise 12", "Removes and restores the latest state of the history.");
        for (int act = 0; act < ACTS; act++) {
            for (int section = 0; section < Picture.HISTORY_SECTION; section++) {
                WindRoses desk = busy();
                doOne(desk, act);
                desk.undo();
                s.due("undone act " + act + ", section " + section,
                    Arrays.equals(Picture.section(desk, section), Picture.section(busy(), section)) ? 1 : 0, 1);
            }
        }

        s.of("Promise 12", "Returns the number of states that are left");
        for (int acts = 1; acts <= 6; acts++) {
            WindRoses desk = Desks.withCalm(0, 0, 99 * acts);
            for (int left = Math.min(acts, 4) - 1; left >= 0; left--) {
                s.due("undo of " + acts, desk.undo(), left);
                s.due("states", desk.count(9), left);
            }
        }

        s.of("Promise 12", "NONE if the history is empty.");
        s.due("at first", new WindRoses().undo(), -5);
        WindRoses desk = Desks.withCalm(0, 0, 99);
        s.due("the only one", desk.undo(), 0);
        s.due("then", desk.undo(), -5);
        s.due("once more", desk.undo(), -5);
        desk.calm(0, 0, 1);
        s.due("one again", desk.undo(), 0);
        WindRoses many = Desks.withCalm(0, 0, 99 * 9);
        for (int i = 0; i < 4; i++) {
            many.undo();
        }
        s.due("after four", many.undo(), -5);
        s.due("hours stay", many.count(0), 99 * 5);
        WindRoses kept = new WindRoses();
        kept.keep();
        s.due("a snapshot is not of the history", kept.undo(), -5);
    }

    private static int doOne(WindRoses desk, int act) {
        switch (act) {
            case 0:
                return desk.log(0, 0, 0, 1, 99);
            case 1:
                return desk.calm(0, 0, 99);
            case 2:
                return desk.strike(0, 0, 0, 5);
            case 3:
                return desk.turn(0, 0, 15);
            case 4:
                return desk.set(2, 9);
            case 5:
                return desk.engrave(0, 0);
            case 6:
                return desk.renew(0, 0);
            case 7:
                return desk.logAll();
            default:
                return desk.restore();
        }
    }

    // ---- Promise 13

    private void promise13() {
        s.of("Promise 13", "Takes a snapshot of the state, in place of the one that was.");
        WindRoses desk = new WindRoses();
        for (int kept = 1; kept <= 5; kept++) {
            desk.calm(0, 0, kept);
            int hours = desk.count(0);
            s.due("keep", desk.keep(), hours);
            desk.calm(1, 1, 50);
            s.due("the new one", desk.restore(), hours);
            s.due("nothing of later hours", desk.rose(1, 1, 0), 0);
        }
        WindRoses full = Desks.withCalm(0, 0, 99 * 4);
        full.keep();
        s.due("it is no act", full.undo(), 3);
        s.due("hours", full.count(0), 99 * 3);

        s.of("Promise 13", "Returns how many hours all logs have.");
        s.due("0, not NONE", new WindRoses().keep(), 0);
        WindRoses all = new WindRoses();
        for (int rose = 0; rose < 16; rose++) {
            all.log(rose / 4, rose % 4, rose, 1, 99);
            all.calm(rose / 4, rose % 4, 1);
            s.due("with the log " + rose, all.keep(), 100 * (1 + rose));
        }
    }

    // ---- Promise 14

    private void promise14() {
        s.of("Promise 14", "Restores the state of the snapshot, which stays.");
        WindRoses desk = busy();
        int hours = desk.keep();
        for (int i = 0; i < 7; i++) {
            desk.log(2, 2, i, 1 + i, 9);
            desk.strike(0, 0, 9, 60);
            s.due("time " + i, desk.restore(), hours);
            s.due("log of time " + i, desk.rose(2, 2, 0), 0);
            s.due("struck at time " + i, desk.strike(0, 0, 9, 60), 60);
        }

        s.of("Promise 14", "This is an act.");
        WindRoses acted = Desks.withCalm(0, 0, 5);
        acted.keep();
        acted.log(0, 0, 4, 4, 4);
        lookAtAct(s, acted, WindRoses::restore);
        WindRoses like = Desks.withCalm(0, 0, 5);
        like.keep();
        s.due("of a state that is so already", like.restore(), 5);
        s.due("is an act, too", like.count(9), 2);

        s.of("Promise 14", "Returns how many hours all logs have then");
        WindRoses empty = new WindRoses();
        empty.keep();
        empty.calm(3, 3, 9);
        s.due("0, not NONE", empty.restore(), 0);
        WindRoses both = Desks.withWind(0, 0, 1, 1, 98);
        both.calm(3, 3, 9);
        both.keep();
        both.calm(1, 3, 9);
        s.due("windy and calm ones", both.restore(), 107);

        s.of("Promise 14", "NONE if there is no snapshot.");
        s.due("at first", new WindRoses().restore(), -5);
        s.due("with hours", Desks.withCalm(0, 0, 9).restore(), -5);
        WindRoses undone = Desks.withCalm(0, 0, 9);
        undone.undo();
        s.due("undo makes none", undone.restore(), -5);
    }
}
