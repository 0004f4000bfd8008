/** Promises 24 to 26: undo, saving. */
public final class SavingTest {
    private static final Due due = new Due();

    public static void main(String[] args) {
        sixChanges();
        whatIsNoChange();
        everythingIsUndone();
        slots();
        wrongSlots();
        savedGames();
        twoWays();
        restoringIsAChange();
        due.end("SavingTest");
    }

    private static void sixChanges() {
        LiarMaps maps = new LiarMaps();
        due.is("24: undo() of none", maps.undo(), LiarMaps.NOT_POSSIBLE);
        for (int place = 1; place < 8; place++) {
            maps.treasure(place);
            due.is("24: changes behind " + place, maps.count(13), Math.min(place, 6));
        }
        for (int left = 5; left >= 0; left--) {
            due.is("24: undo() to " + left, maps.undo(), left);
        }
        due.is("24: the oldest one is dropped", maps.undo(), LiarMaps.NOT_POSSIBLE);
        due.is("24: the state before six changes", maps.treasure(0), 1);
        for (int times = 0; times < 20; times++) {
            maps.treasure(times % 8);
            maps.treasure((times + 3) % 8);
            maps.undo();
        }
        due.is("24: two changes and one undone, 20 times", maps.count(13), 5);
        for (int left = 4; left >= 0; left--) {
            due.is("24: undo() to " + left, maps.undo(), left);
        }
        due.is("24: the state before the last five that stayed", maps.treasure(0), 14 % 8);
    }

    private static void whatIsNoChange() {
        LiarMaps maps = new LiarMaps();
        maps.set(0, 99);
        maps.road(1, 1);
        maps.treasure(9);
        maps.claim(0, 1, 1);
        maps.check(1, 0, 1);
        maps.dig(0);
        maps.pass();
        maps.put('x');
        maps.fault();
        maps.carryOut();
        maps.wipe();
        maps.save(0);
        maps.save(2);
        maps.restore(1);
        maps.undo();
        maps.bestShow(0);
        due.is("24: none of these is a change", maps.count(13), 0);
        maps.restore(0);
        due.is("24: restore is one", maps.count(13), 1);
        maps.set(0, 2);
        due.is("24: set to the same is one", maps.count(13), 2);
        maps.treasure(0);
        due.is("24: treasure to the same is one", maps.count(13), 3);
        maps.begin();
        maps.begin();
        due.is("24: begin is one, once", maps.count(13), 4);
        maps.undo();
        maps.undo();
        due.is("24: undo is none", maps.count(13), 2);
    }

    private static final String[] CHANGES = {
        "set", "road", "treasure", "begin", "claim", "claim", "check", "dig", "pass", "find"
    };

    private static LiarMaps behind(int changes) {
        LiarMaps maps = new LiarMaps();
        for (int i = 0; i < changes; i++) {
            change(maps, CHANGES[i]);
        }
        return maps;
    }

    /** One of each change, and all that can be asked of before it. */
    private static void everythingIsUndone() {
        for (int changes = 1; changes <= CHANGES.length; changes++) {
            String before = Look.state(behind(changes - 1));
            LiarMaps maps = behind(changes);
            due.is("24: " + CHANGES[changes - 1] + " is seen", Look.state(maps).equals(before) ? 1 : 0, 0);
            maps.undo();
            due.same("24: undo() of " + CHANGES[changes - 1], Look.state(maps), before);
        }
        for (int undos = 1; undos <= 6; undos++) {
            LiarMaps maps = behind(CHANGES.length);
            for (int undo = 0; undo < undos; undo++) {
                maps.undo();
            }
            due.is("24: " + undos + " undone", maps.count(13), 6 - undos);
            due.same("24: " + undos + " undone", Look.state(maps), Look.state(behind(CHANGES.length - undos)));
        }
    }

    private static void change(LiarMaps maps, String change) {
        int answer = switch (change) {
            case "set" -> maps.set(LiarMaps.TOLL, 7);
            case "road" -> maps.road(3, 4);
            case "treasure" -> maps.treasure(4);
            case "begin" -> maps.begin();
            case "claim" -> maps.claim(maps.count(1), 4, 1);
            case "check" -> maps.check(0, 0, 4);
            case "dig" -> maps.dig(3);
            case "pass" -> maps.pass();
            default -> maps.dig(4);
        };
        due.is("24: " + change + " is no error", answer < 0 ? 1 : 0, 0);
    }

    private static void slots() {
        LiarMaps maps = new LiarMaps();
        maps.road(0, 1);
        due.is("25: save(0)", maps.save(0), 1);
        maps.road(0, 2);
        maps.road(0, 3);
        due.is("25: save(1)", maps.save(1), 3);
        due.is("25: save is no change", maps.count(13), 3);
        maps.road(0, 4);
        due.is("26: restore(0)", maps.restore(0), 1);
        due.is("26: road(0, 1) is there", maps.knows(0, 0, 1), 1);
        due.is("26: road(0, 2) is not", maps.knows(1, 0, 2), 0);
        due.is("26: restore(1)", maps.restore(1), 3);
        maps.road(5, 6);
        due.is("26: the slot keeps it", maps.restore(1), 3);
        due.is("25: save over what was saved", maps.save(0), 3);
        due.is("26: restore(0)", maps.restore(0), 3);
        due.is("24: undo() of restore", maps.undo(), 5);
        due.is("26: the slot is not undone", maps.restore(0), 3);
        maps.undo();
        maps.undo();
        due.is("24: undo() to before the restore of 1", maps.save(1), 4);
    }

    private static void wrongSlots() {
        LiarMaps maps = new LiarMaps();
        int[] wrong = {-1, 2, Integer.MIN_VALUE, Integer.MAX_VALUE};
        for (int slot : wrong) {
            due.is("25: save(" + slot + ")", maps.save(slot), LiarMaps.BAD_VALUE);
            due.is("26: restore(" + slot + ")", maps.restore(slot), LiarMaps.BAD_VALUE);
        }
        due.is("26: restore(0) of nothing", maps.restore(0), LiarMaps.NOT_POSSIBLE);
        due.is("26: restore(1) of nothing", maps.restore(1), LiarMaps.NOT_POSSIBLE);
        maps.save(1);
        due.is("26: restore(0) of nothing yet", maps.restore(0), LiarMaps.NOT_POSSIBLE);
        due.is("26: restore(1)", maps.restore(1), 0);
        due.is("26: one change", maps.count(13), 1);
    }

    private static LiarMaps savedGame() {
        LiarMaps maps = QuestionsTest.row();
        maps.set(LiarMaps.FINE, 9);
        maps.claim(0, 1, 0);
        maps.check(0, 0, 1);
        maps.dig(0);
        due.is("25: save(0) in the game", maps.save(0), 3);
        return maps;
    }

    private static LiarMaps playedOn() {
        LiarMaps maps = savedGame();
        maps.set(LiarMaps.FINE, 10);
        maps.claim(0, 2, 1);
        maps.dig(3);
        return maps;
    }

    private static void savedGames() {
        LiarMaps maps = playedOn();
        due.is("26: restore(0)", maps.restore(0), 3);
        due.same("26: all is as it was saved", Look.state(maps), Look.state(savedGame()));
        LiarMaps back = playedOn();
        back.restore(0);
        due.is("24: undo() of restore", back.undo(), 5);
        due.same("24: all is as it was before", Look.state(back), Look.state(playedOn()));
        back.put('p');
        back.restore(0);
        due.is("26: the pad is not restored", back.count(12), 1);
        LiarMaps full = playedOn();
        full.restore(0);
        due.is("26: the history is not restored", full.count(13), 6);
    }

    private static LiarMaps firstWay(LiarMaps maps) {
        maps.dig(2);
        maps.claim(0, 1, 0);
        return maps;
    }

    private static LiarMaps secondWay(LiarMaps maps) {
        maps.dig(7);
        maps.claim(0, 1, 1);
        maps.claim(5, 6, 0);
        return maps;
    }

    /** Two games that go on from the same one in two ways. */
    private static void twoWays() {
        LiarMaps maps = TurnsTest.ring();
        maps.save(0);
        firstWay(maps);
        maps.save(1);
        maps.restore(0);
        secondWay(maps);
        maps.restore(1);
        due.same("26: the first way", Look.state(maps), Look.state(firstWay(TurnsTest.ring())));
        due.is("26: where was dug", maps.dug(0), 2);
        due.is("26: who says that 0-1 is not there", maps.ofRoad(0, 1, 5), 2);
        due.is("26: nobody claims anything of 5-6", maps.ofRoad(5, 6, 5), 0);
        maps.undo();
        due.same("24: the second way", Look.state(maps), Look.state(secondWay(TurnsTest.ring())));
        due.is("24: where was dug", maps.dug(0), 7);
        due.is("24: who says that 5-6 is not there", maps.ofRoad(5, 6, 5), 4);
    }

    private static void restoringIsAChange() {
        LiarMaps maps = new LiarMaps();
        maps.save(0);
        maps.begin();
        due.is("26: restore(0) of a map ahead of its game", maps.restore(0), 0);
        due.is("26: not begun", maps.count(2), 0);
        due.is("26: roads can be laid again", maps.road(0, 1), 1);
        due.is("24: three changes", maps.count(13), 3);
        due.is("24: undo()", maps.undo(), 2);
        due.is("24: undo() of restore", maps.undo(), 1);
        due.is("24: the game goes on again", maps.count(2), 1);
        for (int times = 0; times < 8; times++) {
            maps.restore(0);
        }
        due.is("24: six at most", maps.count(13), 6);
    }
}
