/**
 * What an object holds, but its history and its slots, as it answers when it is asked, a row for each call: some 200
 * calls, so that two looks are within the 512 calls of an object.
 */
final class Look {
    private final LiarMaps maps;
    private final StringBuilder rows = new StringBuilder();

    private Look(LiarMaps maps) {
        this.maps = maps;
    }

    /** Nothing changes by it. */
    static String of(LiarMaps maps) {
        Look look = new Look(maps);
        look.counts();
        look.players();
        look.places();
        look.roads();
        return look.rows.toString();
    }

    /** With the treasure's place, too; the latest change of the history stays the latest, but old ones may be dropped. */
    static String state(LiarMaps maps) {
        return of(maps) + "treasure=" + treasure(maps) + "\n";
    }

    /** Where the treasure is; -1 if the game is over. It can be asked only by changes, so the history may be another. */
    static int treasure(LiarMaps maps) {
        if (maps.count(2) == 0) {
            int place = maps.treasure(0);
            maps.undo();
            return place;
        }
        if (maps.count(2) == 2) {
            return -1;
        }
        int found = -1;
        maps.set(LiarMaps.DIG, 0);
        for (int place = 0; place < 8; place++) {
            found = maps.dig(place) == 0 ? place : found;
            maps.undo();
        }
        maps.undo();
        return found;
    }

    private void row(String call, int answer) {
        rows.append(call).append('=').append(answer).append('\n');
    }

    private void counts() {
        for (int what = 0; what < 13; what++) {
            row("count(" + what + ")", maps.count(what));
        }
        row("fault()", maps.fault());
        row("canBe()", maps.canBe());
        int rank = 0;
        while (rank < 151 && maps.dug(rank) >= 0) {
            row("dug(" + rank + ")", maps.dug(rank));
            rank++;
        }
        row("dug(" + rank + ")", maps.dug(rank));
    }

    private void players() {
        for (int player = 0; player < 3; player++) {
            for (int what = 0; what < 8; what++) {
                row("player(" + player + ", " + what + ")", maps.player(player, what));
            }
        }
    }

    private void places() {
        for (int place = 0; place < 8; place++) {
            for (int what = 0; what < 5; what++) {
                row("place(" + place + ", " + what + ")", maps.place(place, what));
            }
        }
    }

    private void roads() {
        int number = 0;
        for (int low = 0; low < 8; low++) {
            for (int high = low + 1; high < 8; high++) {
                String ends = low + ", " + high;
                for (int what : new int[] {2, 4, 5}) {
                    row("ofRoad(" + ends + ", " + what + ")", maps.ofRoad(low, high, what));
                }
                // Whoever's third it is knows it, so this tells whether the road is there.
                int owner = number % 3;
                row("knows(" + owner + ", " + ends + ")", maps.knows(owner, low, high));
                number++;
            }
        }
    }
}
