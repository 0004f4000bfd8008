import java.util.ArrayDeque;
import java.util.Deque;
import java.util.function.ToIntFunction;

/** Promises 24 to 26: the history when it is empty, full and goes round, and what undo and the slots leave as it is. */
public final class HistoryTest {
    private static final Due due = new Due();

    public static void main(String[] args) {
        roundAndRound();
        eachChangeWhenItIsFull();
        eachRefusedChangeWhenItIsFull();
        undoLeavesThePad();
        undoLeavesTheSlots();
        slotsLeaveTheHistory();
        slotsKeepWhatTheyHave();
        slotsAtEachStage();
        due.end("HistoryTest");
    }

    /** Changes, undos and changes again, as many as 15, 8 and 8; a state is told by its number of roads or by its toll. */
    private static void roundAndRound() {
        for (int first = 0; first <= 15; first++) {
            for (int back = 0; back <= 8; back++) {
                for (int again = 0; again <= 8; again++) {
                    String name = "24: " + first + " changes, " + back + " undos, " + again + " changes: ";
                    LiarMaps maps = new LiarMaps();
                    Deque<Integer> states = new ArrayDeque<>();
                    changeSome(maps, states, first);
                    undoSome(maps, states, back, name);
                    changeSome(maps, states, again);
                    due.is(name + "count(13)", maps.count(13), states.size());
                    undoSome(maps, states, 7, name);
                }
            }
        }
    }

    private static void changeSome(LiarMaps maps, Deque<Integer> states, int changes) {
        for (int change = 0; change < changes; change++) {
            states.addLast(maps.count(11));
            maps.set(LiarMaps.FIND, 1 + (maps.count(11) + 7 * change + 3) % 200);
            if (states.size() > 6) {
                states.removeFirst();
            }
        }
    }

    private static void undoSome(LiarMaps maps, Deque<Integer> states, int undos, String name) {
        for (int undo = 0; undo < undos; undo++) {
            int before = maps.count(11);
            boolean none = states.isEmpty();
            int state = none ? before : states.removeLast();
            due.is(name + "undo()", maps.undo(), none ? LiarMaps.NOT_POSSIBLE : states.size());
            due.is(name + "the state", maps.count(11), state);
        }
    }

    /** A full history, of which the oldest state has a FIND of 40, the next one of 41; 0 claims 0-2, and 1 is next. */
    private static LiarMaps full(boolean begun) {
        LiarMaps maps = new LiarMaps();
        for (int place = 0; place < 8; place++) {
            maps.road(place, (place + 1) % 8);
        }
        if (begun) {
            maps.begin();
            maps.claim(0, 2, 1);
        }
        maps.save(0);
        for (int find = 41; find <= 46; find++) {
            maps.set(LiarMaps.FIND, find);
        }
        return maps;
    }

    private static void changed(String name, boolean begun, String text, ToIntFunction<LiarMaps> change, boolean records) {
        LiarMaps maps = full(begun);
        due.is("24: full ahead of " + name, maps.count(13), 6);
        Due.type(maps, text);
        int answer = change.applyAsInt(maps);
        due.is("24: an error of " + name, answer < 0 ? 1 : 0, records ? 0 : 1);
        due.is("24: full behind " + name, maps.count(13), 6);
        int find = records ? 46 : 45;
        for (int left = 5; left >= 0; left--) {
            due.is("24: undo() behind " + name, maps.undo(), left);
            due.is("24: the state behind " + name, maps.count(11), find);
            find--;
        }
        due.is("24: the oldest one of " + name, maps.count(11), records ? 41 : 40);
        due.is("24: no more behind " + name, maps.undo(), LiarMaps.NOT_POSSIBLE);
        due.is("24: nothing more is undone", maps.count(11), records ? 41 : 40);
    }

    private static void eachChangeWhenItIsFull() {
        changed("set", false, "", maps -> maps.set(LiarMaps.TOLL, 3), true);
        changed("set to the same", true, "", maps -> maps.set(LiarMaps.TOLL, 2), true);
        changed("road", false, "", maps -> maps.road(0, 1), true);
        changed("treasure", false, "", maps -> maps.treasure(7), true);
        changed("treasure to the same", false, "", maps -> maps.treasure(0), true);
        changed("begin", false, "", LiarMaps::begin, true);
        changed("claim", true, "", maps -> maps.claim(0, 1, 0), true);
        changed("check", true, "", maps -> maps.check(0, 0, 2), true);
        changed("dig", true, "", maps -> maps.dig(1), true);
        changed("find", true, "", maps -> maps.dig(0), true);
        changed("pass", true, "", LiarMaps::pass, true);
        changed("carryOut of one", true, "p", LiarMaps::carryOut, true);
        changed("carryOut of nine", true, "p;p;p;+ab;dc;p;-ab;p;p", LiarMaps::carryOut, true);
        changed("carryOut of none", true, "b", LiarMaps::carryOut, true);
        changed("carryOut of some", true, "p;p;b;p", LiarMaps::carryOut, true);
        changed("restore", true, "", maps -> maps.restore(0), true);
    }

    private static void eachRefusedChangeWhenItIsFull() {
        changed("wrong set", true, "", maps -> maps.set(LiarMaps.TOLL, 21), false);
        changed("wrong road", false, "", maps -> maps.road(5, 5), false);
        changed("late road", true, "", maps -> maps.road(5, 6), false);
        changed("wrong treasure", false, "", maps -> maps.treasure(8), false);
        changed("late treasure", true, "", maps -> maps.treasure(7), false);
        changed("begin again", true, "", LiarMaps::begin, false);
        changed("wrong claim", true, "", maps -> maps.claim(0, 1, 2), false);
        changed("early claim", false, "", maps -> maps.claim(0, 1, 1), false);
        changed("wrong check", true, "", maps -> maps.check(0, 0, 3), false);
        changed("early check", false, "", maps -> maps.check(1, 0, 3), false);
        changed("wrong dig", true, "", maps -> maps.dig(-1), false);
        changed("early dig", false, "", maps -> maps.dig(1), false);
        changed("early pass", false, "", LiarMaps::pass, false);
        changed("carryOut of a fault", true, "p;p;", LiarMaps::carryOut, false);
        changed("carryOut of nothing", true, "", LiarMaps::carryOut, false);
        changed("wrong restore", true, "", maps -> maps.restore(2), false);
        changed("restore of nothing", true, "", maps -> maps.restore(1), false);
    }

    private static void undoLeavesThePad() {
        LiarMaps maps = new LiarMaps();
        Due.type(maps, "rab");
        maps.carryOut();
        Due.type(maps, "rbc;rc");
        due.is("24: undo()", maps.undo(), 0);
        due.is("24: the pad has what was put since", maps.count(12), 6);
        due.is("24: its fault", maps.fault(), 6);
        maps.treasure(4);
        maps.put('d');
        due.is("24: undo()", maps.undo(), 0);
        due.is("24: the pad has all that was put", maps.fault(), LiarMaps.NONE);
        due.is("23: carryOut()", maps.carryOut(), 2);
        due.is("23: two roads", maps.save(0), 2);
        maps.treasure(4);
        Due.type(maps, "p");
        maps.wipe();
        due.is("24: undo()", maps.undo(), 1);
        due.is("24: what was wiped stays wiped", maps.count(12), 0);
    }

    private static void undoLeavesTheSlots() {
        LiarMaps maps = new LiarMaps();
        maps.road(0, 1);
        maps.save(0);
        due.is("24: undo()", maps.undo(), 0);
        due.is("24: no road", maps.save(1), 0);
        due.is("26: the road that was saved", maps.restore(0), 1);
        due.is("26: no road was saved", maps.restore(1), 0);
        due.is("24: undo()", maps.undo(), 1);
        due.is("24: undo() of the first restore", maps.undo(), 0);
        due.is("26: restore(0) behind its undo", maps.restore(0), 1);
    }

    private static void slotsLeaveTheHistory() {
        LiarMaps maps = new LiarMaps();
        maps.save(0);
        for (int low = 0; low < 7; low++) {
            maps.road(low, 7);
        }
        due.is("25: save(1)", maps.save(1), 7);
        due.is("25: the history stays", maps.count(13), 6);
        due.is("26: restore(0)", maps.restore(0), 0);
        due.is("26: it is full yet", maps.count(13), 6);
        for (int roads = 7; roads >= 2; roads--) {
            due.is("24: undo()", maps.undo(), roads - 2);
            due.is("24: roads", maps.save(0), roads);
        }
        due.is("24: no more", maps.undo(), LiarMaps.NOT_POSSIBLE);
        due.is("26: what was saved last in 0", maps.restore(0), 2);
        due.is("26: what was saved last in 1", maps.restore(1), 7);
    }

    private static void slotsKeepWhatTheyHave() {
        for (int slot = 0; slot < 2; slot++) {
            LiarMaps maps = new LiarMaps();
            maps.road(0, 1);
            due.is("25: save(" + slot + ")", maps.save(slot), 1);
            due.is("26: the other one is empty", maps.restore(1 - slot), LiarMaps.NOT_POSSIBLE);
            maps.road(0, 2);
            due.is("25: save(" + (1 - slot) + ")", maps.save(1 - slot), 2);
            maps.road(0, 3);
            for (int times = 0; times < 9; times++) {
                due.is("26: restore(" + slot + ")", maps.restore(slot), 1);
                due.is("26: road(0, 4)", maps.road(0, 4), 2);
                due.is("26: restore(" + (1 - slot) + ")", maps.restore(1 - slot), 2);
                due.is("26: road(0, 2) away", maps.road(0, 2), 1);
            }
            due.is("25: save(" + slot + ") over it", maps.save(slot), 1);
            due.is("26: restore(" + slot + ")", maps.restore(slot), 1);
            due.is("25: save(" + slot + ") is again what was saved last", maps.save(slot), 1);
            due.is("26: the other one has not changed", maps.restore(1 - slot), 2);
        }
    }

    /** What is saved ahead of the game, in it and behind it is all restored, whatever the game is then. */
    private static void slotsAtEachStage() {
        for (int from = 0; from < 3; from++) {
            for (int to = 0; to < 3; to++) {
                LiarMaps maps = atStage(from);
                due.is("25: save(1)", maps.save(1), 8);
                for (int stage = from; stage < to; stage++) {
                    goOn(maps, stage);
                }
                maps.set(LiarMaps.FINE, 7);
                due.is("26: restore(1)", maps.restore(1), 8);
                due.same("26: stage " + from + " restored at stage " + to, Look.state(maps), Look.state(atStage(from)));
                due.is("24: undo() of restore", maps.undo() < 0 ? 1 : 0, 0);
                due.is("24: the stage before it", maps.count(2), Math.max(from, to));
                due.is("24: the fine before it", maps.count(9), 7);
            }
        }
    }

    private static LiarMaps atStage(int stage) {
        LiarMaps maps = new LiarMaps();
        for (int place = 0; place < 8; place++) {
            maps.road(place, (place + 1) % 8);
        }
        maps.treasure(6);
        for (int ahead = 0; ahead < stage; ahead++) {
            goOn(maps, ahead);
        }
        return maps;
    }

    private static void goOn(LiarMaps maps, int stage) {
        if (stage == 0) {
            maps.begin();
            maps.claim(0, 2, 1);
            maps.claim(2, 5, 0);
            maps.check(0, 0, 2);
            maps.dig(1);
        } else {
            maps.dig(6);
        }
    }
}
