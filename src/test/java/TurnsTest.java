/** Promises 6 to 9: the turns. */
public final class TurnsTest {
    private static final Due due = new Due();

    public static void main(String[] args) {
        claims();
        wrongClaims();
        checks();
        wrongChecks();
        shortPurses();
        tollsThatPayFines();
        diggings();
        wrongDiggings();
        passing();
        theLastTurn();
        due.end("TurnsTest");
    }

    /** A ring of eight places, of which nothing is known; the treasure is at place 4. */
    static LiarMaps ring() {
        LiarMaps maps = new LiarMaps();
        for (int place = 0; place < 8; place++) {
            maps.road(place, (place + 1) % 8);
        }
        maps.treasure(4);
        maps.begin();
        return maps;
    }

    private static void claims() {
        LiarMaps maps = ring();
        due.is("6: claim(0, 1, 1) by 0", maps.claim(0, 1, 1), 1);
        due.is("6: the turn of 1", maps.count(1), 1);
        due.is("6: claim(1, 0, 0) by 1", maps.claim(1, 0, 0), 1);
        due.is("6: claim(6, 7, 0) by 2", maps.claim(6, 7, 0), 1);
        due.is("6: the turn of 0", maps.count(1), 0);
        due.is("6: claim(3, 2, 0) by 0", maps.claim(3, 2, 0), 2);
        due.is("6: claim(0, 1, 1) by 1, the other way", maps.claim(0, 1, 1), 1);
        due.is("6: those who say it is there", maps.ofRoad(1, 0, 4), 3);
        due.is("6: those who say it is not", maps.ofRoad(1, 0, 5), 0);
        due.is("6: claim(0, 1, 0) by 2", maps.claim(0, 1, 0), 2);
        due.is("6: those who say it is not", maps.ofRoad(0, 1, 5), 4);
        due.is("6: claim(0, 1, 0) by 0, the other way", maps.claim(0, 1, 0), 2);
        due.is("6: those who say it is there", maps.ofRoad(0, 1, 4), 2);
        due.is("6: those who say it is not", maps.ofRoad(0, 1, 5), 5);
        due.is("6: seven turns", maps.count(0), 7);
        due.is("6: undo()", maps.undo(), 5);
        due.is("6: the claim of 0 is back", maps.ofRoad(0, 1, 4), 3);
        due.is("6: six turns", maps.count(0), 6);
        due.is("6: claims reveal nothing", maps.count(7), 0);
    }

    private static void wrongClaims() {
        LiarMaps ahead = new LiarMaps();
        due.is("6: claim ahead of the game", ahead.claim(0, 1, 1), LiarMaps.NOT_POSSIBLE);
        due.is("6: claim(0, 1, 2) ahead of the game", ahead.claim(0, 1, 2), LiarMaps.BAD_VALUE);
        LiarMaps maps = ring();
        int changes = maps.count(13);
        due.is("6: claim(8, 0, 1)", maps.claim(8, 0, 1), LiarMaps.NO_SUCH);
        due.is("6: claim(0, 8, 1)", maps.claim(0, 8, 1), LiarMaps.NO_SUCH);
        due.is("6: claim(-1, 0, 1)", maps.claim(-1, 0, 1), LiarMaps.NO_SUCH);
        due.is("6: claim(0, -1, 7)", maps.claim(0, -1, 7), LiarMaps.NO_SUCH);
        due.is("6: claim(4, 4, 1)", maps.claim(4, 4, 1), LiarMaps.BAD_VALUE);
        due.is("6: claim(4, 5, 2)", maps.claim(4, 5, 2), LiarMaps.BAD_VALUE);
        due.is("6: claim(4, 5, -1)", maps.claim(4, 5, -1), LiarMaps.BAD_VALUE);
        due.is("6: no turn was taken", maps.count(0), 0);
        due.is("6: no change was made", maps.count(13), changes);
        maps.dig(4);
        due.is("6: claim behind the game", maps.claim(4, 5, 1), LiarMaps.NOT_POSSIBLE);
        due.is("6: claim(4, 4, 1) behind the game", maps.claim(4, 4, 1), LiarMaps.BAD_VALUE);
    }

    private static void checks() {
        LiarMaps maps = ring();
        maps.claim(0, 1, 1);
        due.is("7: check of a true claim", maps.check(0, 1, 0), 0);
        due.is("7: the checker pays the toll", maps.player(1, 0), 18);
        due.is("7: the other one gets it", maps.player(0, 0), 22);
        due.is("7: the road is revealed", maps.ofRoad(0, 1, 2), 1);
        due.is("7: all know it", maps.ofRoad(0, 1, 3), 1);
        due.is("7: the claim stays", maps.player(0, 1), 1);
        due.is("7: checks of 1", maps.player(1, 4), 1);
        due.is("7: those that found a lie", maps.player(1, 5), 0);
        due.is("7: lies of 0", maps.player(0, 3), 0);
        maps.claim(0, 2, 1);
        maps.pass();
        due.is("7: check of a lie that it is there", maps.check(2, 0, 2), 1);
        due.is("7: toll and fine of the checker", maps.player(1, 0), 21);
        due.is("7: toll and fine of the liar", maps.player(2, 0), 17);
        due.is("7: all know that it is not there", maps.ofRoad(2, 0, 3), 0);
        due.is("7: checks of 1", maps.player(1, 4), 2);
        due.is("7: those that found a lie", maps.player(1, 5), 1);
        due.is("7: lies of 2", maps.player(2, 3), 1);
        maps.claim(4, 5, 0);
        due.is("7: check of a lie that it is not there", maps.check(2, 5, 4), 1);
        due.is("7: lies of 2", maps.player(2, 3), 2);
        due.is("7: three are revealed", maps.count(7), 3);
        due.is("7: undo()", maps.undo(), 5);
        due.is("7: lies of 2 behind undo", maps.player(2, 3), 1);
        due.is("7: checks of 0 behind undo", maps.player(0, 4), 0);
        due.is("7: two are revealed", maps.count(7), 2);
        due.is("7: the turn of 0", maps.count(1), 0);

        // What is known but not revealed can be checked yet.
        LiarMaps known = new LiarMaps();
        known.begin();
        known.claim(1, 2, 1);
        due.is("7: it is known", known.ofRoad(1, 2, 3), 0);
        due.is("7: it is not revealed", known.ofRoad(1, 2, 2), 0);
        due.is("7: check of what is known", known.check(0, 1, 2), 1);
    }

    private static void wrongChecks() {
        LiarMaps ahead = new LiarMaps();
        due.is("7: check ahead of the game", ahead.check(1, 0, 1), LiarMaps.NOT_POSSIBLE);
        due.is("7: check of 0 ahead of the game", ahead.check(0, 0, 1), LiarMaps.BAD_VALUE);
        LiarMaps maps = ring();
        maps.claim(0, 1, 1);
        maps.claim(0, 1, 1);
        maps.claim(5, 6, 1);
        due.is("7: check(-1, 0, 1)", maps.check(-1, 0, 1), LiarMaps.NO_SUCH);
        due.is("7: check(3, 0, 1)", maps.check(3, 0, 1), LiarMaps.NO_SUCH);
        due.is("7: check(3, 4, 4)", maps.check(3, 4, 4), LiarMaps.NO_SUCH);
        due.is("7: check(1, 8, 1)", maps.check(1, 8, 1), LiarMaps.NO_SUCH);
        due.is("7: check(1, 0, -1)", maps.check(1, 0, -1), LiarMaps.NO_SUCH);
        due.is("7: check(0, 0, 8) of oneself", maps.check(0, 0, 8), LiarMaps.NO_SUCH);
        due.is("7: check(0, 0, 1) of oneself", maps.check(0, 0, 1), LiarMaps.BAD_VALUE);
        due.is("7: check(1, 3, 3)", maps.check(1, 3, 3), LiarMaps.BAD_VALUE);
        due.is("7: check of what is not claimed", maps.check(1, 0, 2), LiarMaps.NOT_POSSIBLE);
        due.is("7: check of what another claims", maps.check(1, 5, 6), LiarMaps.NOT_POSSIBLE);
        due.is("7: three turns yet", maps.count(0), 3);
        due.is("7: nothing was paid", maps.player(0, 0), 20);
        due.is("7: no check was made", maps.player(0, 4), 0);
        due.is("7: check(1, 0, 1)", maps.check(1, 0, 1), 0);
        due.is("7: check of what is revealed", maps.check(0, 0, 1), LiarMaps.NOT_POSSIBLE);
        maps.dig(4);
        due.is("7: the game is over", maps.count(2), 2);
        due.is("7: check behind the game", maps.check(0, 5, 6), LiarMaps.NOT_POSSIBLE);
    }

    private static void shortPurses() {
        LiarMaps maps = ring();
        maps.set(LiarMaps.DIG, 19);
        maps.set(LiarMaps.TOLL, 20);
        maps.set(LiarMaps.FINE, 50);
        maps.dig(0);
        due.is("7: one coin is left", maps.player(0, 0), 1);
        maps.claim(0, 1, 1);
        maps.pass();
        due.is("7: check with one coin", maps.check(1, 0, 1), 0);
        due.is("7: no coin is left", maps.player(0, 0), 0);
        due.is("7: the coin was paid", maps.player(1, 0), 21);
        maps.claim(0, 2, 1);
        maps.claim(0, 3, 1);
        due.is("7: check without a coin", maps.check(1, 0, 2), 1);
        due.is("7: the fine is all there is", maps.player(0, 0), 21);
        due.is("7: the liar has none left", maps.player(1, 0), 0);
    }

    private static void tollsThatPayFines() {
        LiarMaps maps = ring();
        maps.set(LiarMaps.DIG, 20);
        maps.set(LiarMaps.TOLL, 3);
        maps.dig(0);
        maps.pass();
        maps.pass();
        maps.claim(0, 2, 1);
        due.is("7: check of a liar without coins", maps.check(0, 0, 2), 1);
        due.is("7: the toll pays of the fine what it can", maps.player(1, 0), 20);
        due.is("7: none is left", maps.player(0, 0), 0);
        maps.set(LiarMaps.TOLL, 0);
        maps.claim(1, 3, 1);
        maps.pass();
        due.is("7: check without a toll", maps.check(2, 1, 3), 1);
        due.is("7: the fine alone", maps.player(1, 0), 25);
        due.is("7: of the liar, too", maps.player(2, 0), 15);
    }

    private static void diggings() {
        LiarMaps maps = ring();
        due.is("8: dig(0)", maps.dig(0), 4);
        due.is("8: it costs", maps.player(0, 0), 16);
        due.is("8: dig(5)", maps.dig(5), 1);
        due.is("8: dig(2)", maps.dig(2), 2);
        due.is("8: the turn of 0", maps.count(1), 0);
        due.is("8: dig(0) again", maps.dig(0), 4);
        due.is("8: diggings of 0", maps.player(0, 6), 2);
        due.is("8: diggings of 1", maps.player(1, 6), 1);
        due.is("8: nobody found it", maps.count(3), LiarMaps.NONE);
        due.is("8: dig(4)", maps.dig(4), 0);
        due.is("8: the treasure's coins", maps.player(1, 0), 52);
        due.is("8: who found it", maps.count(3), 1);
        due.is("8: the game is over", maps.count(2), 2);
        due.is("8: five turns", maps.count(0), 5);
        due.is("8: dig(4) behind the game", maps.dig(4), LiarMaps.NOT_POSSIBLE);
        due.is("8: undo()", maps.undo(), 5);
        due.is("8: the game goes on", maps.count(2), 1);
        due.is("8: nobody found it", maps.count(3), LiarMaps.NONE);
        due.is("8: the purse behind undo", maps.player(1, 0), 16);
        due.is("8: not dug at 4", maps.place(4, 3), LiarMaps.NONE);

        LiarMaps apart = new LiarMaps();
        apart.road(0, 1);
        apart.treasure(1);
        apart.begin();
        due.is("8: dig where no way is", apart.dig(2), 99);
        due.is("8: dig where one is", apart.dig(0), 1);

        LiarMaps row = new LiarMaps();
        for (int place = 0; place < 7; place++) {
            row.road(place, place + 1);
        }
        row.treasure(7);
        row.begin();
        due.is("8: the longest way", row.dig(0), 7);

        LiarMaps rich = new LiarMaps();
        rich.set(LiarMaps.FIND, 200);
        rich.begin();
        rich.dig(0);
        due.is("8: FIND as it is set", rich.player(0, 0), 216);
    }

    private static void wrongDiggings() {
        LiarMaps ahead = new LiarMaps();
        due.is("8: dig ahead of the game", ahead.dig(0), LiarMaps.NOT_POSSIBLE);
        due.is("8: dig(8) ahead of the game", ahead.dig(8), LiarMaps.NO_SUCH);
        LiarMaps maps = ring();
        due.is("8: dig(-1)", maps.dig(-1), LiarMaps.NO_SUCH);
        due.is("8: dig(8)", maps.dig(8), LiarMaps.NO_SUCH);
        maps.set(LiarMaps.DIG, 21);
        due.is("8: dig for 21 of 20 coins", maps.dig(0), LiarMaps.NOT_POSSIBLE);
        due.is("8: nothing was paid", maps.player(0, 0), 20);
        due.is("8: no turn was taken", maps.count(0), 0);
        due.is("8: nobody dug", maps.dug(0), LiarMaps.NO_SUCH);
        maps.set(LiarMaps.DIG, 20);
        due.is("8: dig for 20 of 20 coins", maps.dig(0), 4);
        due.is("8: none is left", maps.player(0, 0), 0);
        maps.set(LiarMaps.DIG, 0);
        Due.passTurns(maps, 2);
        due.is("8: dig for no coins", maps.dig(1), 3);
    }

    private static void passing() {
        LiarMaps ahead = new LiarMaps();
        due.is("9: pass ahead of the game", ahead.pass(), LiarMaps.NOT_POSSIBLE);
        LiarMaps maps = ring();
        due.is("9: pass() of 0", maps.pass(), 1);
        due.is("9: pass() of 1", maps.pass(), 2);
        due.is("9: pass() of 2", maps.pass(), 0);
        due.is("9: three turns", maps.count(0), 3);
        due.is("9: undo()", maps.undo(), 5);
        due.is("9: the turn of 2", maps.count(1), 2);
        maps.dig(4);
        due.is("9: who found it", maps.count(3), 2);
        due.is("9: pass behind the game", maps.pass(), LiarMaps.NOT_POSSIBLE);
    }

    private static void theLastTurn() {
        LiarMaps maps = ring();
        Due.passTurns(maps, 149);
        due.is("9: 149 turns", maps.count(0), 149);
        due.is("9: it goes on", maps.count(2), 1);
        due.is("9: the last turn", maps.pass(), 0);
        due.is("9: 150 turns", maps.count(0), 150);
        due.is("9: it is over", maps.count(2), 2);
        due.is("9: nobody found it", maps.count(3), LiarMaps.NONE);
        due.is("9: pass() behind it", maps.pass(), LiarMaps.NOT_POSSIBLE);
        due.is("9: claim behind it", maps.claim(0, 1, 1), LiarMaps.NOT_POSSIBLE);
        due.is("9: dig behind it", maps.dig(0), LiarMaps.NOT_POSSIBLE);
        due.is("9: undo()", maps.undo(), 5);
        due.is("9: dig in the last turn", maps.dig(4), 0);
        due.is("9: 2 found it", maps.count(3), 2);
        due.is("9: it is over", maps.count(2), 2);
    }
}
