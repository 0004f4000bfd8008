/** Promises 6 to 9, 14, 15: claims, checks, diggings, turns and purses, at their least and their most. */
public final class LimitsTest {
    private static final Due due = new Due();

    public static void main(String[] args) {
        allRoadsClaimed();
        allRoadsRevealed();
        lastTurns();
        lastTurnsOfTexts();
        lastTurnsAndSlots();
        diggingsOfTexts();
        fines();
        tolls();
        settingsOfTheMoment();
        dearDiggings();
        finds();
        allCalls();
        due.end("LimitsTest");
    }

    private static void allRoadsClaimed() {
        LiarMaps maps = TurnsTest.ring();
        int number = 0;
        for (int low = 0; low < 8; low++) {
            for (int high = low + 1; high < 8; high++) {
                for (int player = 0; player < 3; player++) {
                    due.is("6: claim of road " + number + " by " + player,
                            maps.claim(low, high, (number + player) % 2), number + 1);
                }
                due.is("10: who says it is there", maps.ofRoad(low, high, 4), number % 2 == 0 ? 2 : 5);
                due.is("10: who says it is not", maps.ofRoad(low, high, 5), number % 2 == 0 ? 5 : 2);
                number++;
            }
        }
        due.is("6: no claim more by 0", maps.claim(7, 6, 0), 28);
        due.is("6: of the last road", maps.ofRoad(6, 7, 4), 4);
        for (int player = 0; player < 3; player++) {
            due.is("12: all claims", maps.player(player, 1), 28);
        }
        due.is("15: nothing is known by claims", maps.count(4), 0);
        due.is("15: no claim is shown to be a lie", maps.count(6), 0);
        due.is("15: turns", maps.count(0), 85);
    }

    /** In a ring 8 roads are there and 20 are not. */
    private static void allRoadsRevealed() {
        LiarMaps maps = TurnsTest.ring();
        maps.set(LiarMaps.TOLL, 0);
        maps.set(LiarMaps.FINE, 1);
        int revealed = 0;
        for (int low = 0; low < 8; low++) {
            for (int high = low + 1; high < 8; high++) {
                boolean there = high - low == 1 || high - low == 7;
                maps.claim(low, high, 1);
                due.is("7: check of " + low + "-" + high, maps.check(0, high, low), there ? 0 : 1);
                maps.pass();
                revealed++;
                due.is("15: revealed", maps.count(7), revealed);
            }
        }
        int[] counts = {84, 0, 1, LiarMaps.NONE, 28, 8, 20, 28};
        for (int what = 0; what < counts.length; what++) {
            due.is("15: count(" + what + ") when all are revealed", maps.count(what), counts[what]);
        }
        int[] ofZero = {0, 28, 20, 20, 0, 0, 0, 28};
        int[] ofOne = {40, 0, 0, 0, 28, 20, 0, 28};
        for (int what = 0; what < 8; what++) {
            due.is("12: player(0, " + what + ") of 20 lies", maps.player(0, what), ofZero[what]);
            due.is("12: player(1, " + what + ") of 28 checks", maps.player(1, what), ofOne[what]);
        }
        due.is("18: bestShow(0)", maps.bestShow(0), LiarMaps.NONE);
        maps.pass();
        due.is("7: no road is left to check", maps.check(0, 6, 7), LiarMaps.NOT_POSSIBLE);
        due.is("7: nor this one", maps.check(0, 0, 2), LiarMaps.NOT_POSSIBLE);
        due.is("6: what is revealed can be claimed", maps.claim(0, 2, 0), 1);
        due.is("15: it is no lie", maps.count(6), 20);
    }

    /** The turn of 2, who can check what 0 claims of 0-2, a lie; one turn is left. */
    private static LiarMaps oneTurnLeft() {
        LiarMaps maps = TurnsTest.ring();
        maps.claim(0, 2, 1);
        Due.passTurns(maps, 148);
        return maps;
    }

    private static void lastTurns() {
        for (int kind = 0; kind < 5; kind++) {
            LiarMaps maps = oneTurnLeft();
            String turn = new String[] {"claim", "check", "dig", "find", "pass"}[kind];
            due.is("9: turns before the last " + turn, maps.count(0), 149);
            due.is("9: it goes on before the last " + turn, maps.count(2), 1);
            int got = kind == 0 ? maps.claim(1, 2, 0) : kind == 1 ? maps.check(0, 0, 2)
                    : kind == 2 ? maps.dig(3) : kind == 3 ? maps.dig(4) : maps.pass();
            due.is("9: the last " + turn, got, new int[] {1, 1, 1, 0, 0}[kind]);
            due.is("9: turns behind the last " + turn, maps.count(0), 150);
            due.is("9: over behind the last " + turn, maps.count(2), 2);
            due.is("9: who found it", maps.count(3), kind == 3 ? 2 : LiarMaps.NONE);
            due.is("6: claim behind the last " + turn, maps.claim(4, 5, 1), LiarMaps.NOT_POSSIBLE);
            due.is("7: check behind the last " + turn, maps.check(1, 4, 5), LiarMaps.NOT_POSSIBLE);
            due.is("8: dig behind the last " + turn, maps.dig(4), LiarMaps.NOT_POSSIBLE);
            due.is("9: pass behind the last " + turn, maps.pass(), LiarMaps.NOT_POSSIBLE);
            due.is("3: road behind the last " + turn, maps.road(4, 5), LiarMaps.NOT_POSSIBLE);
            due.is("4: treasure behind the last " + turn, maps.treasure(4), LiarMaps.NOT_POSSIBLE);
            due.is("5: begin behind the last " + turn, maps.begin(), LiarMaps.NOT_POSSIBLE);
            due.is("17: shows behind the last " + turn, maps.shows(4, 5), 1);
            due.is("16: canBe behind the last " + turn, maps.canBe(), new int[] {255, 255, 20, 16, 255}[kind]);
            due.is("24: undo of the last " + turn, maps.undo(), 5);
            due.is("24: it goes on again", maps.count(2), 1);
            due.is("24: no turn can be behind the last one", maps.pass() + 10 * maps.pass(), -50);
        }
    }

    private static void lastTurnsOfTexts() {
        LiarMaps maps = TurnsTest.ring();
        Due.passTurns(maps, 120);
        Due.type(maps, "p;p;p;p;p;p;p;p;p;p;p;p;p;p;p;p;p;p;p;p;p;p;p;p;p;p;p;p;p;p;p;p;p;p;p;p;p;p;dh");
        due.is("23: the turns that are left", maps.carryOut(), 30);
        due.is("23: 150 turns", maps.count(0), 150);
        due.is("23: over", maps.count(2), 2);
        due.is("14: nobody dug", maps.dug(0), LiarMaps.NO_SUCH);
        Due.type(maps, "p");
        due.is("23: none is left", maps.carryOut(), 0);
        due.is("24: undo() of none", maps.undo(), 5);
        due.is("24: over yet", maps.count(2), 2);
        due.is("24: undo() of 30", maps.undo(), 4);
        due.is("24: 120 turns", maps.count(0), 120);
    }

    private static void lastTurnsAndSlots() {
        LiarMaps maps = oneTurnLeft();
        maps.save(0);
        maps.pass();
        maps.save(1);
        due.is("26: restore(0)", maps.restore(0), 8);
        due.is("26: it goes on", maps.count(2), 1);
        due.is("26: dig in the last turn", maps.dig(4), 0);
        due.is("26: restore(1)", maps.restore(1), 8);
        due.is("26: over, and nobody found it", maps.count(3), LiarMaps.NONE);
        due.is("26: pass() when it is over", maps.pass(), LiarMaps.NOT_POSSIBLE);
        due.is("24: undo() of restore", maps.undo(), 5);
        due.is("24: 2 found it", maps.count(3), 2);
    }

    /** 80 characters dig 27 times. */
    private static void diggingsOfTexts() {
        LiarMaps maps = TurnsTest.ring();
        maps.set(LiarMaps.DIG, 0);
        String text = "da;db;dc;dd;df;dg;dh;da;db;dc;dd;df;dg;dh;da;db;dc;dd;df;dg;dh;da;db;dc;dd;df;dg";
        int[] places = {0, 1, 2, 3, 5, 6, 7};
        for (int texts = 1; texts <= 6; texts++) {
            due.is("20: 80 characters", Due.type(maps, text), 80);
            due.is("23: diggings", maps.carryOut(), texts < 6 ? 27 : 15);
            due.is("14: no more", maps.dug(Math.min(27 * texts, 150)), LiarMaps.NO_SUCH);
        }
        for (int rank = 0; rank < 150; rank++) {
            due.is("14: dug(" + rank + ")", maps.dug(rank), places[rank % 27 % 7]);
        }
        due.is("14: dug(151)", maps.dug(151), LiarMaps.NO_SUCH);
        for (int player = 0; player < 3; player++) {
            due.is("12: diggings of " + player, maps.player(player, 6), 50);
            due.is("12: they cost nothing", maps.player(player, 0), 20);
        }
        maps.undo();
        due.is("24: dug(134)", maps.dug(134), places[134 % 27 % 7]);
        due.is("24: dug(135)", maps.dug(135), LiarMaps.NO_SUCH);
    }

    private static void fines() {
        int[] fines = {1, 19, 20, 21, 50};
        int[] left = {19, 1, 0, 0, 0};
        for (int i = 0; i < fines.length; i++) {
            LiarMaps maps = TurnsTest.ring();
            maps.set(LiarMaps.TOLL, 0);
            maps.set(LiarMaps.FINE, fines[i]);
            due.is("7: a lie", Due.reveal(maps, 0, 2), 1);
            due.is("7: the liar behind a fine of " + fines[i], maps.player(0, 0), left[i]);
            due.is("7: the checker behind a fine of " + fines[i], maps.player(1, 0), 40 - left[i]);
            due.is("7: the third one behind a fine of " + fines[i], maps.player(2, 0), 20);
        }
    }

    private static void tolls() {
        int[] dig = {0, 0, 0, 1, 2, 20};
        int[] toll = {0, 19, 20, 20, 20, 20};
        int[] left = {20, 1, 0, 0, 0, 0};
        for (int i = 0; i < toll.length; i++) {
            LiarMaps maps = TurnsTest.ring();
            maps.pass();
            maps.set(LiarMaps.DIG, dig[i]);
            maps.set(LiarMaps.TOLL, toll[i]);
            maps.dig(0);
            maps.claim(0, 1, 1);
            maps.pass();
            due.is("7: a true claim", maps.check(2, 0, 1), 0);
            due.is("7: the checker behind a toll of " + toll[i], maps.player(1, 0), left[i]);
            due.is("7: the other one behind a toll of " + toll[i], maps.player(2, 0), 40 - dig[i] - left[i]);
            due.is("7: the third one behind a toll of " + toll[i], maps.player(0, 0), 20);
        }
    }

    /** A setting counts as it is when it is paid, not when a claim was made. */
    private static void settingsOfTheMoment() {
        LiarMaps maps = TurnsTest.ring();
        maps.claim(0, 2, 1);
        maps.set(LiarMaps.TOLL, 7);
        maps.set(LiarMaps.FINE, 11);
        due.is("7: check(0, 0, 2)", maps.check(0, 0, 2), 1);
        due.is("7: toll and fine as they are set then", maps.player(1, 0), 20 - 7 + 11);
        maps.set(LiarMaps.TOLL, 0);
        maps.set(LiarMaps.FINE, 1);
        due.is("7: what was paid stays", maps.player(0, 0), 20 + 7 - 11);
        maps.set(LiarMaps.DIG, 3);
        maps.dig(0);
        due.is("8: the digging as it is set then", maps.player(2, 0), 17);
        maps.set(LiarMaps.FIND, 100);
        maps.dig(4);
        due.is("8: the find as it is set then", maps.player(0, 0), 16 - 3 + 100);
    }

    /** 0 has 49 or 50 coins by the lies of the others, and a digging costs 50, the most. */
    private static void dearDiggings() {
        for (int coins = 49; coins <= 50; coins++) {
            LiarMaps maps = TurnsTest.ring();
            maps.set(LiarMaps.TOLL, 0);
            maps.set(LiarMaps.FINE, 50);
            maps.pass();
            maps.claim(0, 2, 1);
            maps.claim(0, 3, 1);
            maps.check(1, 0, 2);
            Due.passTurns(maps, 2);
            maps.set(LiarMaps.FINE, coins - 40);
            maps.check(2, 0, 3);
            Due.passTurns(maps, 2);
            maps.set(LiarMaps.DIG, 50);
            due.is("8: the purse", maps.player(0, 0), coins);
            due.is("8: dig for 50 of " + coins, maps.dig(1), coins < 50 ? LiarMaps.NOT_POSSIBLE : 3);
            due.is("8: what is left", maps.player(0, 0), coins < 50 ? 49 : 0);
            due.is("8: whose turn it is", maps.count(1), coins < 50 ? 0 : 1);
        }
    }

    private static void finds() {
        int[] finds = {1, 2, 199, 200};
        for (int find : finds) {
            LiarMaps maps = TurnsTest.ring();
            maps.set(LiarMaps.FIND, find);
            maps.set(LiarMaps.DIG, 20);
            due.is("8: dig(4)", maps.dig(4), 0);
            due.is("8: a find of " + find, maps.player(0, 0), find);
            due.is("8: the others", maps.player(1, 0) + maps.player(2, 0), 40);
            due.is("8: told of it", maps.place(4, 3), 0);
            due.is("8: dug(0)", maps.dug(0), 4);
            due.is("8: diggings", maps.player(0, 6), 1);
        }
    }

    private static void allCalls() {
        LiarMaps maps = new LiarMaps();
        for (int call = 1; call < 512; call++) {
            maps.set(LiarMaps.DIG, call % 51);
        }
        due.is("2: the 512th call", maps.set(LiarMaps.DIG, 50), 511 % 51);
    }
}
