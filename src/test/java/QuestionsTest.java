/** Promises 10 to 15: what there is. */
public final class QuestionsTest {
    private static final Due due = new Due();

    public static void main(String[] args) {
        ofRoads();
        knowing();
        players();
        shownLies();
        liesThatNobodyChecked();
        places();
        diggings();
        counts();
        wrongQuestions();
        due.end("QuestionsTest");
    }

    /** Roads 0-1, 1-2, 2-3 and the treasure at 3: six roads between 0 to 3 are not known at first. */
    static LiarMaps row() {
        LiarMaps maps = new LiarMaps();
        maps.road(0, 1);
        maps.road(1, 2);
        maps.road(2, 3);
        maps.treasure(3);
        maps.begin();
        return maps;
    }

    private static void ofRoads() {
        LiarMaps maps = row();
        due.is("10: number of 3-1", maps.ofRoad(3, 1, 0), 8);
        due.is("10: who knows 3-1", maps.ofRoad(3, 1, 1), 2);
        due.is("10: what all know of 0-1", maps.ofRoad(0, 1, 3), LiarMaps.NONE);
        due.is("10: what all know of 4-5", maps.ofRoad(4, 5, 3), 0);
        due.is("10: 4-5 is not revealed", maps.ofRoad(4, 5, 2), 0);
        maps.claim(0, 1, 1);
        maps.claim(0, 1, 0);
        maps.claim(1, 0, 1);
        due.is("10: who says it is there", maps.ofRoad(0, 1, 4), 5);
        due.is("10: who says it is not", maps.ofRoad(0, 1, 5), 2);
        due.is("10: of another road nobody", maps.ofRoad(0, 2, 4), 0);
        due.is("10: check(2, 0, 1)", maps.check(2, 0, 1), 0);
        due.is("10: revealed", maps.ofRoad(1, 0, 2), 1);
        due.is("10: all know that 0-1 is there", maps.ofRoad(1, 0, 3), 1);
        due.is("10: it follows that 2-3 is there", maps.ofRoad(2, 3, 3), 1);
        due.is("10: it follows that 0-3 is not", maps.ofRoad(0, 3, 3), 0);
        due.is("10: what follows is not revealed", maps.ofRoad(2, 3, 2), 0);
    }

    private static void knowing() {
        LiarMaps maps = new LiarMaps();
        maps.road(0, 1);
        due.is("11: by the third, ahead", maps.knows(0, 1, 0), 1);
        due.is("11: not by another's", maps.knows(1, 0, 1), LiarMaps.NONE);
        due.is("11: 0-2 is of 1", maps.knows(1, 0, 2), 0);
        due.is("11: 0-2 is not of 2", maps.knows(2, 0, 2), LiarMaps.NONE);
        due.is("11: 0-3 is of 2", maps.knows(2, 0, 3), 0);
        due.is("11: 0-4 is of 0", maps.knows(0, 0, 4), 0);
        maps.begin();
        due.is("11: all know it then", maps.knows(2, 0, 1), 1);
        due.is("11: all know it then", maps.knows(0, 0, 2), 0);
        LiarMaps hidden = row();
        due.is("11: 2-3 is of 1", hidden.knows(1, 2, 3), 1);
        due.is("11: not of 0", hidden.knows(0, 2, 3), LiarMaps.NONE);
        hidden.claim(0, 1, 1);
        hidden.check(0, 0, 1);
        due.is("11: it follows for 0", hidden.knows(0, 2, 3), 1);
    }

    private static void players() {
        LiarMaps maps = row();
        due.is("12: what 0 knows", maps.player(0, 7), 23);
        due.is("12: what 1 knows", maps.player(1, 7), 22 + 3);
        due.is("12: what 2 knows", maps.player(2, 7), 22 + 2);
        maps.claim(0, 1, 1);
        maps.dig(2);
        maps.claim(0, 2, 1);
        maps.claim(0, 3, 1);
        maps.check(2, 0, 2);
        maps.check(1, 0, 2);
        due.is("12: purse of 0", maps.player(0, 0), 20);
        due.is("12: purse of 1", maps.player(1, 0), 16 - 2 + 5);
        due.is("12: purse of 2", maps.player(2, 0), 20 + 2 - 5);
        due.is("12: claims of 0", maps.player(0, 1), 2);
        due.is("12: shown lies of 0, by what follows", maps.player(0, 2), 1);
        due.is("12: claims of 2", maps.player(2, 1), 1);
        due.is("12: shown lies of 2", maps.player(2, 2), 1);
        due.is("12: lies of 2 that were found", maps.player(2, 3), 1);
        due.is("12: checks of 1", maps.player(1, 4), 1);
        due.is("12: checks of 2", maps.player(2, 4), 0);
        due.is("12: checks of 1 that found one", maps.player(1, 5), 1);
        due.is("12: diggings of 1", maps.player(1, 6), 1);
        due.is("12: diggings of 0", maps.player(0, 6), 0);
        due.is("12: 0 knows what all know", maps.player(0, 7), 28);
        due.is("12: 2 knows what all know", maps.player(2, 7), 28);
    }

    private static void shownLies() {
        LiarMaps maps = row();
        maps.claim(2, 3, 0);
        maps.claim(1, 3, 1);
        maps.claim(0, 1, 0);
        due.is("12: none is shown yet", maps.count(6), 0);
        due.is("12: 0 passes", maps.pass(), 1);
        due.is("12: check(2, 0, 1)", maps.check(2, 0, 1), 1);
        due.is("12: of 0 by what follows", maps.player(0, 2), 1);
        due.is("12: of 1 by what follows", maps.player(1, 2), 1);
        due.is("12: of 2 by what is revealed", maps.player(2, 2), 1);
        due.is("12: only one was found by a check", maps.player(0, 3) + maps.player(1, 3) * 10
                + maps.player(2, 3) * 100, 100);
        due.is("15: three are shown", maps.count(6), 3);
        maps.claim(0, 1, 1);
        due.is("12: 2 takes the lie back", maps.player(2, 2), 0);
        due.is("12: the claim is there yet", maps.player(2, 1), 1);
        due.is("12: it was found all the same", maps.player(2, 3), 1);
        due.is("15: two are shown", maps.count(6), 2);
        maps.claim(4, 5, 1);
        due.is("15: a lie that is shown at once", maps.count(6), 3);
    }

    private static void liesThatNobodyChecked() {
        LiarMaps maps = new LiarMaps();
        maps.begin();
        for (int player = 0; player < 3; player++) {
            maps.claim(player, 7, 1);
            due.is("15: lies behind that of " + player, maps.count(6), player + 1);
            due.is("12: it is of " + player, maps.player(player, 2), 1);
            due.is("12: no check found it", maps.player(player, 3), 0);
        }
        due.is("15: no road is revealed", maps.count(7), 0);
        maps.claim(0, 7, 0);
        due.is("15: 0 takes it back", maps.count(6), 2);
    }

    private static void places() {
        LiarMaps maps = row();
        int[] degrees = {1, 2, 2, 1, 0, 0, 0, 0};
        for (int place = 0; place < 8; place++) {
            due.is("13: degree of " + place, maps.place(place, 0), degrees[place]);
            due.is("13: known to be there at " + place, maps.place(place, 1), 0);
            due.is("13: not known at " + place, maps.place(place, 2), place < 4 ? 3 : 0);
            due.is("13: told of " + place, maps.place(place, 3), LiarMaps.NONE);
            due.is("13: known neighbours of " + place, maps.place(place, 4), 0);
        }
        maps.claim(0, 1, 1);
        maps.check(0, 0, 1);
        int[] beside = {2, 5, 10, 4, 0, 0, 0, 0};
        for (int place = 0; place < 8; place++) {
            due.is("13: known to be there at " + place, maps.place(place, 1), degrees[place]);
            due.is("13: not known at " + place, maps.place(place, 2), 0);
            due.is("13: known neighbours of " + place, maps.place(place, 4), beside[place]);
        }
        maps.dig(1);
        maps.dig(7);
        due.is("13: told of 1", maps.place(1, 3), 2);
        due.is("13: told of 7", maps.place(7, 3), 99);
        maps.dig(3);
        due.is("13: told of 3", maps.place(3, 3), 0);
        due.is("13: told of 0", maps.place(0, 3), LiarMaps.NONE);

        LiarMaps full = new LiarMaps();
        for (int low = 0; low < 8; low++) {
            for (int high = low + 1; high < 8; high++) {
                full.road(low, high);
            }
        }
        due.is("13: nothing is known ahead", full.place(7, 4), 0);
        due.is("13: nothing is known ahead", full.place(7, 2), 7);
        due.is("13: no degree ahead", full.place(7, 0), LiarMaps.NONE);
        due.is("5: begin() of a full map", full.begin(), 28);
        for (int place = 0; place < 8; place++) {
            due.is("13: neighbours in a full map", full.place(place, 4), 255 - (1 << place));
            due.is("13: degree in a full map", full.place(place, 0), 7);
        }
    }

    private static void diggings() {
        LiarMaps maps = TurnsTest.ring();
        due.is("14: dug(0) ahead", maps.dug(0), LiarMaps.NO_SUCH);
        int[] order = {6, 0, 6, 1};
        for (int rank = 0; rank < order.length; rank++) {
            maps.dig(order[rank]);
            maps.pass();
        }
        for (int rank = 0; rank < order.length; rank++) {
            due.is("14: dug(" + rank + ")", maps.dug(rank), order[rank]);
        }
        due.is("13: told of 6, twice", maps.place(6, 3), 2);
        due.is("13: told of 0", maps.place(0, 3), 4);
        due.is("13: told of 1", maps.place(1, 3), 3);
        due.is("14: dug(4)", maps.dug(4), LiarMaps.NO_SUCH);
        due.is("14: dug(-1)", maps.dug(-1), LiarMaps.NO_SUCH);
        due.is("14: dug(lowest int)", maps.dug(Integer.MIN_VALUE), LiarMaps.NO_SUCH);
        due.is("14: dug(highest int)", maps.dug(Integer.MAX_VALUE), LiarMaps.NO_SUCH);
        maps.undo();
        maps.undo();
        due.is("14: dug(3) behind undo", maps.dug(3), LiarMaps.NO_SUCH);
        due.is("14: dug(2) behind undo", maps.dug(2), 6);

        LiarMaps often = TurnsTest.ring();
        often.set(LiarMaps.DIG, 0);
        for (int turn = 0; turn < 150; turn++) {
            often.dig(turn % 4);
        }
        due.is("14: the last of 150", often.dug(149), 149 % 4);
        due.is("14: dug(148)", often.dug(148), 148 % 4);
        due.is("14: dug(150)", often.dug(150), LiarMaps.NO_SUCH);
        due.is("14: diggings of 1", often.player(1, 6), 50);
        due.is("14: the game is over", often.count(2), 2);
    }

    private static void counts() {
        LiarMaps maps = row();
        maps.claim(0, 1, 0);
        due.is("15: check(0, 0, 1)", maps.check(0, 0, 1), 1);
        Due.type(maps, "p;p");
        int[] counts = {2, 2, 1, LiarMaps.NONE, 28, 3, 1, 1, 2, 5, 4, 40, 3, 6};
        for (int what = 0; what < counts.length; what++) {
            due.is("15: count(" + what + ")", maps.count(what), counts[what]);
        }
        maps.dig(3);
        due.is("15: who found it", maps.count(3), 2);
        due.is("15: it is over", maps.count(2), 2);
        due.is("15: count(14)", maps.count(14), LiarMaps.BAD_VALUE);
        due.is("15: count(-1)", maps.count(-1), LiarMaps.BAD_VALUE);
        due.is("15: count(lowest int)", maps.count(Integer.MIN_VALUE), LiarMaps.BAD_VALUE);
    }

    private static void wrongQuestions() {
        LiarMaps maps = row();
        due.is("10: ofRoad(0, 1, 6)", maps.ofRoad(0, 1, 6), LiarMaps.BAD_VALUE);
        due.is("10: ofRoad(0, 1, -1)", maps.ofRoad(0, 1, -1), LiarMaps.BAD_VALUE);
        due.is("10: ofRoad(2, 2, 0)", maps.ofRoad(2, 2, 0), LiarMaps.BAD_VALUE);
        due.is("10: ofRoad(8, 8, 9)", maps.ofRoad(8, 8, 9), LiarMaps.NO_SUCH);
        due.is("10: ofRoad(0, -1, 0)", maps.ofRoad(0, -1, 0), LiarMaps.NO_SUCH);
        due.is("11: knows(-1, 0, 1)", maps.knows(-1, 0, 1), LiarMaps.NO_SUCH);
        due.is("11: knows(3, 2, 2)", maps.knows(3, 2, 2), LiarMaps.NO_SUCH);
        due.is("11: knows(0, 8, 1)", maps.knows(0, 8, 1), LiarMaps.NO_SUCH);
        due.is("11: knows(0, 1, -8)", maps.knows(0, 1, -8), LiarMaps.NO_SUCH);
        due.is("11: knows(0, 2, 2)", maps.knows(0, 2, 2), LiarMaps.BAD_VALUE);
        due.is("12: player(-1, 0)", maps.player(-1, 0), LiarMaps.NO_SUCH);
        due.is("12: player(3, 9)", maps.player(3, 9), LiarMaps.NO_SUCH);
        due.is("12: player(0, 8)", maps.player(0, 8), LiarMaps.BAD_VALUE);
        due.is("12: player(0, -1)", maps.player(0, -1), LiarMaps.BAD_VALUE);
        due.is("13: place(-1, 0)", maps.place(-1, 0), LiarMaps.NO_SUCH);
        due.is("13: place(8, 9)", maps.place(8, 9), LiarMaps.NO_SUCH);
        due.is("13: place(0, 5)", maps.place(0, 5), LiarMaps.BAD_VALUE);
        due.is("13: place(0, -1)", maps.place(0, -1), LiarMaps.BAD_VALUE);
    }
}
