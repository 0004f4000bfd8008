/** Promises 16 to 19: what if; nothing changes. */
public final class WhatIfTest {
    private static final Due due = new Due();

    public static void main(String[] args) {
        placesOfTheTreasure();
        whatRoadsShow();
        theBestRoad();
        knownWays();
        nothingChanges();
        due.end("WhatIfTest");
    }

    private static void placesOfTheTreasure() {
        LiarMaps maps = new LiarMaps();
        maps.treasure(6);
        due.is("16: canBe() ahead", maps.canBe(), 0);
        LiarMaps ring = TurnsTest.ring();
        due.is("16: before a digging", ring.canBe(), 255);
        ring.dig(3);
        due.is("16: at a distance of 1 from 3", ring.canBe(), 1 << 2 | 1 << 4);
        ring.dig(0);
        due.is("16: and of 4 from 0", ring.canBe(), 1 << 4);
        ring.undo();
        due.is("16: behind undo", ring.canBe(), 1 << 2 | 1 << 4);
        ring.dig(7);
        due.is("16: and of 3 from 7", ring.canBe(), 1 << 2 | 1 << 4);
        ring.dig(4);
        due.is("16: found", ring.canBe(), 1 << 4);
        ring.undo();
        ring.undo();
        ring.undo();
        due.is("16: all again", ring.canBe(), 255);

        LiarMaps apart = new LiarMaps();
        apart.road(0, 1);
        apart.road(2, 3);
        apart.treasure(2);
        apart.begin();
        apart.dig(1);
        due.is("16: no way leads there", apart.canBe(), 255 - 3);
        apart.dig(5);
        due.is("16: nor there", apart.canBe(), 255 - 3 - 32);
        apart.dig(3);
        due.is("16: beside 3", apart.canBe(), 4);

        // The roads as they truly are count, not what all know of them.
        LiarMaps hidden = QuestionsTest.row();
        hidden.dig(0);
        due.is("15: nothing is known to be there", hidden.count(5), 0);
        due.is("16: at a distance of 3 all the same", hidden.canBe(), 8);
    }

    private static void whatRoadsShow() {
        LiarMaps ahead = new LiarMaps();
        due.is("17: shows(0, 1) ahead", ahead.shows(0, 1), LiarMaps.NOT_POSSIBLE);
        due.is("17: shows(1, 1) ahead", ahead.shows(1, 1), LiarMaps.BAD_VALUE);
        due.is("17: shows(8, 1) ahead", ahead.shows(8, 1), LiarMaps.NO_SUCH);
        LiarMaps row = QuestionsTest.row();
        due.is("17: shows(0, 1)", row.shows(0, 1), 6);
        due.is("17: shows(1, 0)", row.shows(1, 0), 6);
        due.is("17: shows(1, 2)", row.shows(1, 2), 1);
        due.is("17: shows(0, 2)", row.shows(0, 2), 6);
        due.is("17: shows of what is known", row.shows(4, 5), 0);
        due.is("17: shows(-1, 0)", row.shows(-1, 0), LiarMaps.NO_SUCH);
        due.is("17: shows(0, 8)", row.shows(0, 8), LiarMaps.NO_SUCH);
        due.is("17: shows(7, 7)", row.shows(7, 7), LiarMaps.BAD_VALUE);
        row.claim(0, 1, 1);
        row.check(0, 0, 1);
        due.is("17: shows of what is revealed", row.shows(0, 1), 0);
        due.is("17: shows of what followed", row.shows(2, 3), 0);

        LiarMaps ring = TurnsTest.ring();
        due.is("17: a road of a ring", ring.shows(0, 1), 1);
        ring.claim(0, 1, 1);
        ring.check(0, 0, 1);
        due.is("17: the second one at a place, and the 5 that are not there", ring.shows(1, 2), 6);
        due.is("17: the second one, across", ring.shows(1, 5), 1);
    }

    private static void theBestRoad() {
        LiarMaps ahead = new LiarMaps();
        due.is("18: bestShow(0) ahead", ahead.bestShow(0), LiarMaps.NOT_POSSIBLE);
        due.is("18: bestShow(1) ahead", ahead.bestShow(1), LiarMaps.NOT_POSSIBLE);
        due.is("18: bestShow(2) ahead", ahead.bestShow(2), LiarMaps.BAD_VALUE);
        due.is("18: bestShow(-1) ahead", ahead.bestShow(-1), LiarMaps.BAD_VALUE);
        ahead.begin();
        due.is("18: bestShow(0) when all are known", ahead.bestShow(0), LiarMaps.NONE);
        due.is("18: bestShow(1) when all are known", ahead.bestShow(1), LiarMaps.NONE);
        due.is("18: bestShow(2) when all are known", ahead.bestShow(2), LiarMaps.BAD_VALUE);
        LiarMaps ring = TurnsTest.ring();
        due.is("18: the lowest one of the same", ring.bestShow(0), 0);
        due.is("18: it shows itself", ring.bestShow(1), 1);
        ring.claim(0, 1, 1);
        ring.check(0, 0, 1);
        due.is("18: 0-7 shows as much as 1-2, and is lower", ring.bestShow(0), 6);
        due.is("18: how much", ring.bestShow(1), 6);
        LiarMaps row = QuestionsTest.row();
        due.is("18: of a row", row.bestShow(0), 0);
        due.is("18: how much", row.bestShow(1), 6);
    }

    private static void knownWays() {
        LiarMaps maps = new LiarMaps();
        maps.road(0, 1);
        due.is("19: knownWay(0, 1) ahead", maps.knownWay(0, 1), LiarMaps.NONE);
        due.is("19: knownWay(6, 6) ahead", maps.knownWay(6, 6), 0);
        due.is("19: knownWay(8, 8)", maps.knownWay(8, 8), LiarMaps.NO_SUCH);
        due.is("19: knownWay(-1, 0)", maps.knownWay(-1, 0), LiarMaps.NO_SUCH);
        due.is("19: knownWay(0, 8)", maps.knownWay(0, 8), LiarMaps.NO_SUCH);
        LiarMaps row = QuestionsTest.row();
        due.is("19: roads that are not known do not count", row.knownWay(0, 1), LiarMaps.NONE);
        row.claim(0, 1, 1);
        row.check(0, 0, 1);
        for (int place = 0; place < 4; place++) {
            due.is("19: knownWay(0, " + place + ")", row.knownWay(0, place), place);
            due.is("19: knownWay(" + place + ", 3)", row.knownWay(place, 3), 3 - place);
        }
        due.is("19: knownWay(0, 4)", row.knownWay(0, 4), LiarMaps.NONE);

        LiarMaps longest = new LiarMaps();
        int[] places = {3, 0, 7, 2, 5, 1, 6, 4};
        for (int i = 0; i < 7; i++) {
            longest.road(places[i], places[i + 1]);
        }
        longest.begin();
        for (int i = 0; i < 7; i++) {
            int claimer = longest.count(1);
            longest.claim(places[i], places[i + 1], 1);
            longest.check(claimer, places[i], places[i + 1]);
        }
        due.is("19: the longest way", longest.knownWay(3, 4), 7);
        due.is("19: the longest way back", longest.knownWay(4, 3), 7);
        due.is("19: a part of it", longest.knownWay(7, 6), 4);
    }

    private static void nothingChanges() {
        LiarMaps maps = TurnsTest.ring();
        int changes = maps.count(13);
        maps.shows(0, 1);
        maps.bestShow(0);
        maps.bestShow(1);
        maps.canBe();
        maps.knownWay(0, 1);
        due.is("17: nothing is revealed", maps.count(7), 0);
        due.is("18: nothing is known", maps.count(4), 0);
        due.is("16: no turn was taken", maps.count(0), 0);
        due.is("19: no change was made", maps.count(13), changes);
    }
}
