/** Promises 1 to 5: a new object, and the changes ahead of the game. */
public final class LayingTest {
    private static final Due due = new Due();

    public static void main(String[] args) {
        aNewObject();
        roadNumbersAndOwners();
        settings();
        settingsAtAnyTime();
        roads();
        treasures();
        beginning();
        due.end("LayingTest");
    }

    private static void aNewObject() {
        LiarMaps maps = new LiarMaps();
        int[] counts = {0, 0, 0, LiarMaps.NONE, 0, 0, 0, 0, 2, 5, 4, 40, 0, 0};
        for (int what = 0; what < counts.length; what++) {
            due.is("1: new, count(" + what + ")", maps.count(what), counts[what]);
        }
        int[] known = {10, 9, 9};
        for (int player = 0; player < 3; player++) {
            due.is("1: new, player(" + player + ", 0)", maps.player(player, 0), 20);
            for (int what = 1; what < 7; what++) {
                due.is("1: new, player(" + player + ", " + what + ")", maps.player(player, what), 0);
            }
            due.is("1: new, player(" + player + ", 7)", maps.player(player, 7), known[player]);
        }
        int[] ofPlace = {LiarMaps.NONE, 0, 7, LiarMaps.NONE, 0};
        for (int place = 0; place < 8; place++) {
            for (int what = 0; what < ofPlace.length; what++) {
                due.is("1: new, place(" + place + ", " + what + ")", maps.place(place, what), ofPlace[what]);
            }
        }
        due.is("1: new, fault()", maps.fault(), 0);
        due.is("1: new, canBe()", maps.canBe(), 0);
        due.is("1: new, undo()", maps.undo(), LiarMaps.NOT_POSSIBLE);
        due.is("1: new, restore(0)", maps.restore(0), LiarMaps.NOT_POSSIBLE);
        due.is("1: new, dug(0)", maps.dug(0), LiarMaps.NO_SUCH);
        due.is("1: new, save(0)", maps.save(0), 0);
        due.is("1: new, treasure(7)", maps.treasure(7), 0);
    }

    private static void roadNumbersAndOwners() {
        LiarMaps maps = new LiarMaps();
        int number = 0;
        for (int low = 0; low < 8; low++) {
            for (int high = low + 1; high < 8; high++) {
                due.is("1: ofRoad(" + low + ", " + high + ", 0)", maps.ofRoad(low, high, 0), number);
                due.is("1: ofRoad(" + high + ", " + low + ", 0)", maps.ofRoad(high, low, 0), number);
                due.is("1: ofRoad(" + high + ", " + low + ", 1)", maps.ofRoad(high, low, 1), number % 3);
                for (int player = 0; player < 3; player++) {
                    due.is("1: knows(" + player + ", " + low + ", " + high + ")",
                            maps.knows(player, low, high), player == number % 3 ? 0 : LiarMaps.NONE);
                }
                number++;
            }
        }
    }

    private static void settings() {
        int[] first = {2, 5, 4, 40};
        int[] least = {0, 1, 0, 1};
        int[] most = {20, 50, 50, 200};
        for (int setting = 0; setting < 4; setting++) {
            LiarMaps maps = new LiarMaps();
            String call = "2: set(" + setting + ", ";
            due.is(call + "least - 1)", maps.set(setting, least[setting] - 1), LiarMaps.BAD_VALUE);
            due.is(call + "most + 1)", maps.set(setting, most[setting] + 1), LiarMaps.BAD_VALUE);
            due.is(call + "lowest int)", maps.set(setting, Integer.MIN_VALUE), LiarMaps.BAD_VALUE);
            due.is(call + "highest int)", maps.set(setting, Integer.MAX_VALUE), LiarMaps.BAD_VALUE);
            due.is("2: a wrong set is no change", maps.count(13), 0);
            due.is(call + "least)", maps.set(setting, least[setting]), first[setting]);
            due.is(call + "most)", maps.set(setting, most[setting]), least[setting]);
            due.is(call + "most) again", maps.set(setting, most[setting]), most[setting]);
            due.is("2: each set is a change", maps.count(13), 3);
            for (int other = 0; other < 4; other++) {
                due.is("2: count(" + (8 + other) + ")", maps.count(8 + other),
                        other == setting ? most[other] : first[other]);
            }
            due.is("2: undo() of a set", maps.undo(), 2);
            due.is("2: undo() of a set", maps.undo(), 1);
            due.is("2: the setting is back", maps.count(8 + setting), least[setting]);
        }
        LiarMaps maps = new LiarMaps();
        due.is("2: set(-1, 5)", maps.set(-1, 5), LiarMaps.BAD_VALUE);
        due.is("2: set(4, 5)", maps.set(4, 5), LiarMaps.BAD_VALUE);
        due.is("2: set(highest int, 5)", maps.set(Integer.MAX_VALUE, 5), LiarMaps.BAD_VALUE);
        due.is("2: set(lowest int, 5)", maps.set(Integer.MIN_VALUE, 5), LiarMaps.BAD_VALUE);
    }

    private static void settingsAtAnyTime() {
        LiarMaps maps = new LiarMaps();
        maps.begin();
        due.is("2: set in the game", maps.set(LiarMaps.DIG, 0), 4);
        due.is("2: it takes no turn", maps.count(0), 0);
        due.is("2: found for nothing", maps.dig(0), 0);
        due.is("2: set behind the game", maps.set(LiarMaps.FIND, 200), 40);
        due.is("2: the purse stays", maps.player(0, 0), 60);
    }

    private static void roads() {
        LiarMaps maps = new LiarMaps();
        int there = 0;
        for (int low = 0; low < 8; low++) {
            for (int high = low + 1; high < 8; high++) {
                there++;
                due.is("3: road(" + high + ", " + low + ")", maps.road(high, low), there);
                int owner = maps.ofRoad(low, high, 1);
                due.is("3: its owner knows it", maps.knows(owner, low, high), 1);
            }
        }
        due.is("3: road(6, 7) away", maps.road(6, 7), 27);
        due.is("3: taken away", maps.knows(0, 7, 6), 0);
        due.is("3: road(0, 1) away", maps.road(0, 1), 26);
        due.is("3: at most 6 can be undone", maps.count(13), 6);
        due.is("3: undo()", maps.undo(), 5);
        due.is("3: road(0, 1) away again", maps.road(1, 0), 26);
        due.is("3: road(-1, 0)", maps.road(-1, 0), LiarMaps.NO_SUCH);
        due.is("3: road(0, -1)", maps.road(0, -1), LiarMaps.NO_SUCH);
        due.is("3: road(8, 0)", maps.road(8, 0), LiarMaps.NO_SUCH);
        due.is("3: road(0, 8)", maps.road(0, 8), LiarMaps.NO_SUCH);
        due.is("3: road(8, 8)", maps.road(8, 8), LiarMaps.NO_SUCH);
        due.is("3: road(3, 3)", maps.road(3, 3), LiarMaps.BAD_VALUE);
        due.is("3: wrong ones change nothing", maps.save(0), 26);
        due.is("3: wrong ones are no changes", maps.count(13), 6);
        maps.begin();
        due.is("3: road(1, 2) in the game", maps.road(1, 2), LiarMaps.NOT_POSSIBLE);
        due.is("3: road(2, 2) in the game", maps.road(2, 2), LiarMaps.BAD_VALUE);
        due.is("3: road(2, 9) in the game", maps.road(2, 9), LiarMaps.NO_SUCH);
        due.is("3: no road is laid in the game", maps.save(0), 26);
    }

    private static void treasures() {
        LiarMaps maps = new LiarMaps();
        due.is("4: treasure(7)", maps.treasure(7), 0);
        due.is("4: treasure(7) again", maps.treasure(7), 7);
        due.is("4: treasure(0)", maps.treasure(0), 7);
        due.is("4: treasure(-1)", maps.treasure(-1), LiarMaps.NO_SUCH);
        due.is("4: treasure(8)", maps.treasure(8), LiarMaps.NO_SUCH);
        due.is("4: three changes", maps.count(13), 3);
        due.is("4: treasure(5)", maps.treasure(5), 0);
        due.is("4: undo()", maps.undo(), 3);
        due.is("4: treasure(6)", maps.treasure(6), 0);
        maps.begin();
        due.is("4: treasure(3) in the game", maps.treasure(3), LiarMaps.NOT_POSSIBLE);
        due.is("4: treasure(8) in the game", maps.treasure(8), LiarMaps.NO_SUCH);
        due.is("4: dig(3)", maps.dig(3), 99);
        due.is("4: dig(6)", maps.dig(6), 0);
    }

    private static void beginning() {
        LiarMaps maps = new LiarMaps();
        due.is("5: begin() without roads", maps.begin(), 28);
        due.is("5: begin() again", maps.begin(), LiarMaps.NOT_POSSIBLE);
        due.is("5: one change", maps.count(13), 1);
        due.is("5: going on", maps.count(2), 1);
        due.is("5: undo()", maps.undo(), 0);
        due.is("5: not begun", maps.count(2), 0);
        due.is("5: nothing is known", maps.count(4), 0);
        due.is("5: begin() behind undo", maps.begin(), 28);

        LiarMaps laid = new LiarMaps();
        laid.road(0, 1);
        laid.treasure(5);
        laid.begin();
        laid.undo();
        due.is("5: the road is there behind undo", laid.knows(0, 0, 1), 1);
        due.is("5: the treasure, too", laid.treasure(0), 5);

        LiarMaps ring = new LiarMaps();
        for (int place = 0; place < 8; place++) {
            ring.road(place, (place + 1) % 8);
        }
        due.is("5: begin() with a ring", ring.begin(), 0);
        due.is("5: degree in a ring", ring.place(3, 0), 2);

        LiarMaps star = new LiarMaps();
        for (int place = 0; place < 8; place++) {
            star.road(5, place);
        }
        due.is("5: begin() with a star", star.begin(), 28);
        due.is("5: degree of its middle", star.place(5, 0), 7);
        due.is("5: degree of its ends", star.place(2, 0), 1);
        due.is("5: roads that are there", star.count(5), 7);

        // What follows of a full place settles the next ones, again and again.
        LiarMaps stairs = new LiarMaps();
        for (int low = 0; low < 8; low++) {
            for (int high = low + 1; high < 8; high++) {
                if (low + high >= 7) {
                    stairs.road(low, high);
                }
            }
        }
        due.is("5: begin() with stairs", stairs.begin(), 28);
        due.is("5: roads of the stairs", stairs.count(5), 16);
    }
}
