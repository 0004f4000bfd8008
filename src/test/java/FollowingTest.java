/** What follows (promises 5, 7, 10 to 13, 15 to 19): of full places, of places that need all that is open, again and again. */
public final class FollowingTest {
    private static final int MAPS = 60;

    private static final Due due = new Due();

    public static void main(String[] args) {
        fullPlaces();
        placesThatNeedAll();
        degreesAtTheirEnds();
        againAndAgain();
        claimsTellNothing();
        lowestOfTheBest();
        for (int map = 0; map < MAPS; map++) {
            whatIsShownComesTrue(map);
            answersAgree(map);
            distancesAgree(map);
        }
        due.end("FollowingTest");
    }

    private static void fullPlaces() {
        LiarMaps maps = TurnsTest.ring();
        due.is("5: of a ring nothing is known", maps.count(4), 0);
        due.is("7: reveal 0-1", Due.reveal(maps, 0, 1), 0);
        due.is("15: nothing follows of one road", maps.count(4), 1);
        due.is("13: known at 0", maps.place(0, 1), 1);
        due.is("13: not known at 0", maps.place(0, 2), 6);
        due.is("17: the second one of 0", maps.shows(7, 0), 6);
        due.is("7: reveal 7-0", Due.reveal(maps, 7, 0), 0);
        due.is("15: the others of 0 follow", maps.count(4), 7);
        due.is("15: two of these are there", maps.count(5), 2);
        due.is("15: two are revealed", maps.count(7), 2);
        for (int other = 2; other < 7; other++) {
            due.is("10: 0-" + other + " is not there", maps.ofRoad(0, other, 3), 0);
            due.is("10: it is not revealed", maps.ofRoad(other, 0, 2), 0);
            due.is("13: not known at " + other, maps.place(other, 2), 6);
        }
        int[] ofZero = {2, 2, 0, LiarMaps.NONE, 1 << 1 | 1 << 7};
        for (int what = 0; what < ofZero.length; what++) {
            due.is("13: place(0, " + what + ")", maps.place(0, what), ofZero[what]);
        }
        due.is("10: of 1-2 nothing follows", maps.ofRoad(1, 2, 3), LiarMaps.NONE);
    }

    /** All roads but those of a ring: 5 at each place. */
    private static void placesThatNeedAll() {
        LiarMaps maps = new LiarMaps();
        for (int low = 0; low < 8; low++) {
            for (int high = low + 2; high < Math.min(8, low + 7); high++) {
                maps.road(low, high);
            }
        }
        due.is("5: nothing is known", maps.begin(), 0);
        due.is("13: degree", maps.place(6, 0), 5);
        due.is("7: reveal 0-1", Due.reveal(maps, 0, 1), 1);
        due.is("15: nothing follows of one road", maps.count(4), 1);
        due.is("13: not known at 0", maps.place(0, 2), 6);
        due.is("17: the second one that is not there", maps.shows(0, 7), 6);
        due.is("7: reveal 0-7", Due.reveal(maps, 0, 7), 1);
        due.is("15: the others of 0 follow", maps.count(4), 7);
        due.is("15: these are there", maps.count(5), 5);
        due.is("15: two are revealed", maps.count(7), 2);
        due.is("13: roads of 0", maps.place(0, 1), 5);
        due.is("13: places beside 0", maps.place(0, 4), 0b1111100);
        due.is("13: places beside 4", maps.place(4, 4), 1);
        due.is("19: by 0", maps.knownWay(2, 6), 2);
        due.is("15: two claims are lies", maps.count(6), 2);
    }

    private static void degreesAtTheirEnds() {
        LiarMaps maps = new LiarMaps();
        for (int low = 0; low < 8; low++) {
            for (int high = Math.max(low + 1, 7 - low); high < 8; high++) {
                maps.road(low, high);
            }
        }
        int[] degrees = {1, 2, 3, 4, 4, 5, 6, 7};
        for (int place = 0; place < 8; place++) {
            due.is("13: degree ahead of the game", maps.place(place, 0), LiarMaps.NONE);
        }
        due.is("5: all follows", maps.begin(), 28);
        for (int place = 0; place < 8; place++) {
            due.is("13: degree of " + place, maps.place(place, 0), degrees[place]);
            due.is("13: all are known at " + place, maps.place(place, 1), degrees[place]);
        }
        LiarMaps one = new LiarMaps();
        one.road(6, 2);
        due.is("5: one road", one.begin(), 28);
        due.is("10: it is there", one.ofRoad(2, 6, 3), 1);
        LiarMaps allButOne = new LiarMaps();
        for (int low = 0; low < 8; low++) {
            for (int high = low + 1; high < 8; high++) {
                allButOne.road(low, high);
            }
        }
        allButOne.road(3, 4);
        due.is("5: all but one road", allButOne.begin(), 28);
        due.is("10: it is not there", allButOne.ofRoad(4, 3, 3), 0);
        due.is("15: the others are", allButOne.count(5), 27);
    }

    private static void againAndAgain() {
        LiarMaps maps = new LiarMaps();
        for (int place = 0; place < 7; place++) {
            maps.road(place, place + 1);
        }
        due.is("5: of a row of eight nothing is known", maps.begin(), 0);
        due.is("18: its ends show the most, and 0-1 is the lower one", maps.bestShow(0), 0);
        due.is("18: that many", maps.bestShow(1), 7);
        // The last one makes place 4 full, and place 6 needs both of its open roads then.
        int[] more = {7, 6, 5, 4, 6};
        int known = 0;
        for (int place = 0; place < more.length; place++) {
            due.is("17: shows " + place, maps.shows(place, place + 1), more[place]);
            Due.reveal(maps, place + 1, place);
            known += more[place];
            due.is("15: known behind " + place, maps.count(4), known);
        }
        due.is("15: all are known", maps.count(4), 28);
        due.is("15: five are revealed", maps.count(7), 5);
        due.is("10: 6-7 follows", maps.ofRoad(6, 7, 3), 1);
        due.is("10: 4-7 is not there", maps.ofRoad(4, 7, 3), 0);
        due.is("18: none is left", maps.bestShow(1), LiarMaps.NONE);
    }

    private static void claimsTellNothing() {
        LiarMaps maps = QuestionsTest.row();
        maps.claim(0, 1, 1);
        maps.claim(0, 1, 1);
        maps.claim(0, 1, 1);
        due.is("15: what all claim is not known", maps.count(4), 22);
        due.is("11: 2 does not know it", maps.knows(2, 0, 1), LiarMaps.NONE);
        due.is("8: dig(0)", maps.dig(0), 3);
        due.is("15: a distance tells nothing of roads", maps.count(4), 22);
        due.is("7: check of 1", maps.check(0, 0, 1), 0);
        due.is("15: all are known then", maps.count(4), 28);
        due.is("15: true claims are no lies", maps.count(6), 0);
        maps.claim(1, 0, 0);
        due.is("15: another claim of it is one", maps.count(6), 1);
        due.is("12: of 2", maps.player(2, 2), 1);
        due.is("12: no check found it", maps.player(2, 3), 0);
    }

    private static void lowestOfTheBest() {
        LiarMaps maps = new LiarMaps();
        // Two rows of four, 0 to 3 and 4 to 7: each shows as much as the other.
        for (int place : new int[] {0, 1, 2, 4, 5, 6}) {
            maps.road(place, place + 1);
        }
        maps.begin();
        int best = maps.bestShow(0);
        int most = maps.bestShow(1);
        int number = 0;
        for (int low = 0; low < 8; low++) {
            for (int high = low + 1; high < 8; high++) {
                int more = maps.shows(low, high);
                due.is("18: no road shows more, " + number, Math.max(more, most), most);
                due.is("18: none ahead of it shows as much, " + number, number < best && more == most ? 1 : 0, 0);
                due.is("18: it shows that many", number == best ? more : most, most);
                number++;
            }
        }
    }

    /** One of many maps, the same each time, some turns on; of some maps much is known then, of others little. */
    private static LiarMaps map(int map) {
        LiarMaps maps = new LiarMaps();
        long seed = 12345 + 7919L * map;
        for (int low = 0; low < 8; low++) {
            for (int high = low + 1; high < 8; high++) {
                seed = seed * 6364136223846793005L + 1442695040888963407L;
                if ((seed >>> 40) % 8 < map % 9) {
                    maps.road(low, high);
                }
            }
        }
        maps.treasure(map % 8);
        maps.begin();
        for (int times = 0; times < map % 5; times++) {
            seed = seed * 6364136223846793005L + 1442695040888963407L;
            int place = (int) (seed >>> 40) % 8;
            Due.reveal(maps, place, (place + 1 + times) % 8);
        }
        return maps;
    }

    private static void whatIsShownComesTrue(int map) {
        LiarMaps before = map(map);
        int known = before.count(4);
        int best = LiarMaps.NONE;
        int most = 0;
        for (int low = 0; low < 8; low++) {
            for (int high = low + 1; high < 8; high++) {
                LiarMaps maps = map(map);
                int shown = maps.shows(low, high);
                due.is("17: the other way round", maps.shows(high, low), shown);
                if (maps.ofRoad(low, high, 2) == 1) {
                    due.is("17: what is revealed shows nothing", shown, 0);
                    continue;
                }
                Due.reveal(maps, low, high);
                due.is("17: map " + map + ", shows(" + low + ", " + high + ")", shown, maps.count(4) - known);
                if (shown > most) {
                    most = shown;
                    best = before.ofRoad(low, high, 0);
                }
            }
        }
        due.is("18: map " + map + ", bestShow(0)", before.bestShow(0), best);
        due.is("18: map " + map + ", bestShow(1)", before.bestShow(1), best < 0 ? LiarMaps.NONE : most);
    }

    private static void answersAgree(int map) {
        LiarMaps maps = map(map);
        int[] known = new int[4];
        int[] knows = new int[3];
        for (int low = 0; low < 8; low++) {
            for (int high = low + 1; high < 8; high++) {
                int all = maps.ofRoad(low, high, 3);
                known[0] += all == LiarMaps.NONE ? 0 : 1;
                known[1] += all == 1 ? 1 : 0;
                known[2] += maps.ofRoad(low, high, 2);
                for (int player = 0; player < 3; player++) {
                    int one = maps.knows(player, low, high);
                    knows[player] += one == LiarMaps.NONE ? 0 : 1;
                    if (maps.ofRoad(low, high, 1) != player) {
                        due.is("11: what is not of " + player, one, all);
                    } else if (all != LiarMaps.NONE) {
                        due.is("11: what is of " + player, one, all);
                    }
                }
            }
        }
        due.is("15: known to all, map " + map, maps.count(4), known[0]);
        due.is("15: known to be there, map " + map, maps.count(5), known[1]);
        due.is("15: revealed, map " + map, maps.count(7), known[2]);
        due.is("15: shown lies of all three, map " + map, maps.count(6),
                maps.player(0, 2) + maps.player(1, 2) + maps.player(2, 2));
        for (int player = 0; player < 3; player++) {
            due.is("12: what " + player + " knows, map " + map, maps.player(player, 7), knows[player]);
        }
        for (int place = 0; place < 8; place++) {
            known[3] += maps.place(place, 1) + maps.place(place, 2);
            due.is("13: as many places as roads", Integer.bitCount(maps.place(place, 4)), maps.place(place, 1));
        }
        due.is("13: ends of roads, map " + map, known[3], 2 * (28 - maps.count(4) + maps.count(5)));
    }

    /** Of what is told by digging everywhere the treasure's place alone is left; known ways are never shorter than true ones. */
    private static void distancesAgree(int map) {
        LiarMaps maps = map(map);
        maps.set(LiarMaps.DIG, 0);
        int treasure = map % 8;
        int can = 255;
        due.is("16: no place was dug at", maps.canBe(), 255);
        for (int step = 1; step <= 8; step++) {
            int place = (treasure + step) % 8;
            int known = maps.knownWay(place, treasure);
            due.is("19: the other way round", maps.knownWay(treasure, place), known);
            int told = maps.dig(place);
            due.is("8: told, map " + map, maps.place(place, 3), told);
            due.is("19: a known way is no shorter", known != LiarMaps.NONE && known < told ? 1 : 0, 0);
            if (maps.count(4) == 28) {
                due.is("19: when all are known it is as long", known, told == 99 ? LiarMaps.NONE : told);
            }
            int then = maps.canBe();
            due.is("16: the treasure's place is left", then >> treasure & 1, 1);
            due.is("16: no place comes back", then & ~can, 0);
            due.is("16: where was dug it is not", then >> place & 1, told == 0 ? 1 : 0);
            can = then;
        }
        due.is("16: its place alone", can, 1 << treasure);
        due.is("8: found", maps.count(2), 2);
    }
}
