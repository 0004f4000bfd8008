/** A game of liars' maps; what each call answers is said in ../shared/DOC.md. */
public final class LiarMaps {
    public static final int NO_SUCH = -1, BAD_VALUE = -2, BAD_TEXT = -3, TOO_MANY = -4, NOT_POSSIBLE = -5, NONE = -6;
    public static final int TOLL = 0, FINE = 1, DIG = 2, FIND = 3;

    private static final int PLAYERS = 3;
    private static final int FIRST_SETTING_COUNTED = 8;

    private final Game now;
    private final Past past;
    private final Pad pad;
    private final Slot slotZero;
    private final Slot slotOne;

    public LiarMaps() {
        now = new Game();
        past = new Past();
        pad = new Pad();
        slotZero = new Slot();
        slotOne = new Slot();
    }

    // ---- changes ahead of the game

    public int set(int setting, int value) {
        past.hold(now);
        return keptIfDone(now.changeSetting(setting, value));
    }

    public int road(int place, int other) {
        past.hold(now);
        return keptIfDone(now.layRoad(place, other));
    }

    public int treasure(int place) {
        past.hold(now);
        return keptIfDone(now.hideTreasure(place));
    }

    public int begin() {
        past.hold(now);
        return keptIfDone(now.start());
    }

    // ---- turns: changes, of the player whose turn it is

    public int claim(int place, int other, int is) {
        past.hold(now);
        return keptIfDone(now.makeClaim(place, other, is));
    }

    public int check(int player, int place, int other) {
        past.hold(now);
        return keptIfDone(now.checkClaim(player, place, other));
    }

    public int dig(int place) {
        past.hold(now);
        return keptIfDone(now.digAt(place));
    }

    public int pass() {
        past.hold(now);
        return keptIfDone(now.passTurn());
    }

    private int keptIfDone(int answer) {
        if (answer >= 0) {
            past.keep();
        }
        return answer;
    }

    // ---- what there is

    public int ofRoad(int place, int other, int what) {
        int wrong = Land.wrongEnds(place, other);
        if (wrong != 0) {
            return wrong;
        }
        int number = Land.numberOf(place, other);
        int road = Land.roadBetween(place, other);
        switch (what) {
            case 0:
                return number;
            case 1:
                return number % PLAYERS;
            case 2:
                return isIn(road, now.revealed);
            case 3:
                return now.seenOf(road, now.known);
            case 4:
                return now.claimants(road, true);
            case 5:
                return now.claimants(road, false);
            default:
                return BAD_VALUE;
        }
    }

    public int knows(int player, int place, int other) {
        if (!isPlayer(player)) {
            return NO_SUCH;
        }
        int wrong = Land.wrongEnds(place, other);
        if (wrong != 0) {
            return wrong;
        }
        return now.seenOf(Land.roadBetween(place, other), now.knownTo(player));
    }

    public int player(int player, int what) {
        if (!isPlayer(player)) {
            return NO_SUCH;
        }
        Player asked = now.seat(player);
        switch (what) {
            case 0:
                return asked.purse;
            case 1:
                return asked.claims();
            case 2:
                return asked.shownLies(now.roads, now.known);
            case 3:
                return asked.liesFound;
            case 4:
                return asked.checks;
            case 5:
                return asked.checksThatFound;
            case 6:
                return asked.diggings;
            case 7:
                return Integer.bitCount(now.knownTo(player));
            default:
                return BAD_VALUE;
        }
    }

    public int place(int place, int what) {
        if (!Land.isPlace(place)) {
            return NO_SUCH;
        }
        int there = Land.roadsAt(place);
        switch (what) {
            case 0:
                return now.begun ? Integer.bitCount(there & now.roads) : NONE;
            case 1:
                return Integer.bitCount(there & now.roads & now.known);
            case 2:
                return Integer.bitCount(there & ~now.known);
            case 3:
                return now.toldOf(place);
            case 4:
                return Land.placesBeside(now.roads & now.known, place);
            default:
                return BAD_VALUE;
        }
    }

    public int dug(int rank) {
        return now.dugAs(rank);
    }

    public int count(int what) {
        switch (what) {
            case 0:
                return now.turns;
            case 1:
                return now.next();
            case 2:
                return now.stage();
            case 3:
                return now.finder;
            case 4:
                return Integer.bitCount(now.known);
            case 5:
                return Integer.bitCount(now.known & now.roads);
            case 6:
                return now.shownLies();
            case 7:
                return Integer.bitCount(now.revealed);
            case FIRST_SETTING_COUNTED + TOLL:
            case FIRST_SETTING_COUNTED + FINE:
            case FIRST_SETTING_COUNTED + DIG:
            case FIRST_SETTING_COUNTED + FIND:
                return now.setting(what - FIRST_SETTING_COUNTED);
            case 12:
                return pad.length;
            case 13:
                return past.kept;
            default:
                return BAD_VALUE;
        }
    }

    // ---- what if; nothing changes

    public int canBe() {
        int places = 0;
        if (now.begun) {
            for (int place = 0; place < Land.PLACES; place++) {
                if (now.fitsWhatWasTold(place)) {
                    places |= 1 << place;
                }
            }
        }
        return places;
    }

    public int shows(int place, int other) {
        int wrong = Land.wrongEnds(place, other);
        if (wrong != 0) {
            return wrong;
        }
        return now.begun ? now.moreKnownBy(Land.roadBetween(place, other)) : NOT_POSSIBLE;
    }

    public int bestShow(int what) {
        if (what != 0 && what != 1) {
            return BAD_VALUE;
        }
        if (!now.begun) {
            return NOT_POSSIBLE;
        }
        int best = NONE;
        int most = 0;
        for (int number = 0; number < Land.ROADS; number++) {
            int more = now.moreKnownBy(1 << number);
            if (more > most) {
                most = more;
                best = number;
            }
        }
        return best == NONE || what == 0 ? best : most;
    }

    public int knownWay(int place, int other) {
        if (!Land.isPlace(place) || !Land.isPlace(other)) {
            return NO_SUCH;
        }
        int way = Land.distance(now.roads & now.known, place, other);
        return way == Land.NO_WAY ? NONE : way;
    }

    // ---- texts

    public int put(long characters) {
        return pad.append(characters);
    }

    public int wipe() {
        return pad.empty();
    }

    public int fault() {
        return pad.firstFault();
    }

    public int carryOut() {
        if (pad.firstFault() != NONE) {
            return BAD_TEXT;
        }
        past.hold(now);
        past.keep();
        int done = 0;
        for (int at = 0; at < pad.length; at++) {
            if (pad.startsOrder(at)) {
                if (carryOutOrder(at) < 0) {
                    break;
                }
                done++;
            }
        }
        pad.empty();
        return done;
    }

    private int carryOutOrder(int at) {
        switch (pad.sign(at)) {
            case 'r':
                return now.layRoad(pad.placeAt(at + 1), pad.placeAt(at + 2));
            case 't':
                return now.hideTreasure(pad.placeAt(at + 1));
            case 'b':
                return now.start();
            case '+':
                return now.makeClaim(pad.placeAt(at + 1), pad.placeAt(at + 2), 1);
            case '-':
                return now.makeClaim(pad.placeAt(at + 1), pad.placeAt(at + 2), 0);
            case 'c':
                return now.checkClaim(pad.digitAt(at + 1), pad.placeAt(at + 2), pad.placeAt(at + 3));
            case 'd':
                return now.digAt(pad.placeAt(at + 1));
            case 'p':
                return now.passTurn();
            default:
                return BAD_TEXT;
        }
    }

    // ---- undo, saving

    public int undo() {
        return past.goBack(now) ? past.kept : NOT_POSSIBLE;
    }

    public int save(int slot) {
        if (!isSlot(slot)) {
            return BAD_VALUE;
        }
        Slot into = slotOf(slot);
        into.game.become(now);
        into.filled = true;
        return Integer.bitCount(now.roads);
    }

    public int restore(int slot) {
        if (!isSlot(slot)) {
            return BAD_VALUE;
        }
        Slot from = slotOf(slot);
        if (!from.filled) {
            return NOT_POSSIBLE;
        }
        past.hold(now);
        past.keep();
        now.become(from.game);
        return Integer.bitCount(now.roads);
    }

    private Slot slotOf(int slot) {
        return slot == 0 ? slotZero : slotOne;
    }

    private static boolean isSlot(int slot) {
        return slot == 0 || slot == 1;
    }

    private static boolean isPlayer(int player) {
        return player >= 0 && player < PLAYERS;
    }

    private static int isIn(int road, int roads) {
        return (road & roads) != 0 ? 1 : 0;
    }

    private static void copyRow(int[] from, int[] to) {
        System.arraycopy(from, 0, to, 0, Math.min(from.length, to.length));
    }

    /** Places and roads, whatever the game; a set of roads has the bits of their numbers. */
    private static final class Land {
        static final int PLACES = 8;
        static final int ROADS = 28;
        static final int ALL_ROADS = (1 << ROADS) - 1;
        static final int EVERY_THIRD_ROAD = 0x9249249;
        static final int NO_WAY = 99;

        private static final int[] ROADS_AT = {
            0x7F, 0x1F81, 0x3E082, 0x3C2104, 0x1C44208, 0x6488410, 0xA910820, 0xD221040
        };

        static boolean isPlace(int place) {
            return place >= 0 && place < PLACES;
        }

        static int wrongEnds(int place, int other) {
            if (!isPlace(place) || !isPlace(other)) {
                return NO_SUCH;
            }
            return place == other ? BAD_VALUE : 0;
        }

        static int numberOf(int place, int other) {
            int low = Math.min(place, other);
            int high = Math.max(place, other);
            return low * (2 * PLACES - 1 - low) / 2 + high - low - 1;
        }

        static int roadBetween(int place, int other) {
            return 1 << numberOf(place, other);
        }

        static int roadsAt(int place) {
            return place >= 0 && place < ROADS_AT.length ? ROADS_AT[place] : 0;
        }

        static int thirdOf(int player) {
            return EVERY_THIRD_ROAD << player & ALL_ROADS;
        }

        // The road between two places is the only one that is at both.
        static int placesBeside(int roads, int place) {
            int from = roads & roadsAt(place);
            int beside = 0;
            for (int other = 0; other < PLACES; other++) {
                if (other != place && (from & roadsAt(other)) != 0) {
                    beside |= 1 << other;
                }
            }
            return beside;
        }

        static int distance(int roads, int from, int to) {
            int reached = 1 << from;
            int edge = reached;
            for (int steps = 0; steps < PLACES && edge != 0; steps++) {
                if ((edge >> to & 1) != 0) {
                    return steps;
                }
                edge = besideAny(roads, edge) & ~reached;
                reached |= edge;
            }
            return NO_WAY;
        }

        private static int besideAny(int roads, int places) {
            int beside = 0;
            for (int place = 0; place < PLACES; place++) {
                if ((places >> place & 1) != 0) {
                    beside |= placesBeside(roads, place);
                }
            }
            return beside;
        }

        // A set is enough to tell what is known: what follows from true degrees is true.
        static int withWhatFollows(int roads, int known) {
            int all = known;
            for (int round = 0; round < ROADS; round++) {
                int before = all;
                for (int place = 0; place < PLACES; place++) {
                    all |= followingAt(roads, all, place);
                }
                if (all == before) {
                    break;
                }
            }
            return all;
        }

        private static int followingAt(int roads, int known, int place) {
            int at = roadsAt(place);
            int open = at & ~known;
            int degree = Integer.bitCount(at & roads);
            int there = Integer.bitCount(at & roads & known);
            return there == degree || there + Integer.bitCount(open) == degree ? open : 0;
        }
    }

    /** What one player has, claims and has done; claims are sets of roads. */
    private static final class Player {
        static final int FIRST_PURSE = 20;
        static final int FULL_PURSE = 9999;

        int purse = FIRST_PURSE;
        int saysThere;
        int saysNot;
        int liesFound;
        int checks;
        int checksThatFound;
        int diggings;

        void become(Player other) {
            purse = other.purse;
            saysThere = other.saysThere;
            saysNot = other.saysNot;
            liesFound = other.liesFound;
            checks = other.checks;
            checksThatFound = other.checksThatFound;
            diggings = other.diggings;
        }

        void say(int road, boolean there) {
            saysThere = there ? saysThere | road : saysThere & ~road;
            saysNot = there ? saysNot & ~road : saysNot | road;
        }

        int saying(boolean there) {
            return there ? saysThere : saysNot;
        }

        int claims() {
            return Integer.bitCount(saysThere | saysNot);
        }

        int lies(int roads) {
            return saysThere & ~roads | saysNot & roads;
        }

        int shownLies(int roads, int known) {
            return Integer.bitCount(lies(roads) & known);
        }

        void pay(Player other, int coins) {
            int paid = Math.min(coins, purse);
            purse -= paid;
            other.take(paid);
        }

        void take(int coins) {
            purse = Math.min(FULL_PURSE, purse + coins);
        }
    }

    /** All that undo and the slots bring back; its changes record nothing, as orders of a text must not. */
    private static final class Game {
        static final int LAST_TURN = 150;

        private static final int[] FIRST_SETTINGS = {2, 5, 4, 40};
        private static final int[] LEAST_SETTINGS = {0, 1, 0, 1};
        private static final int[] MOST_SETTINGS = {20, 50, 50, 200};

        final int[] settings = new int[4];
        int roads;
        int treasure;
        boolean begun;
        int revealed;
        int known;
        int turns;
        int finder = NONE;
        final Player zero = new Player();
        final Player one = new Player();
        final Player two = new Player();
        final int[] told = new int[Land.PLACES];
        final int[] digs = new int[LAST_TURN];
        int digsSoFar;

        Game() {
            for (int setting = 0; setting < settings.length && setting < FIRST_SETTINGS.length; setting++) {
                settings[setting] = FIRST_SETTINGS[setting];
            }
            for (int place = 0; place < told.length; place++) {
                told[place] = NONE;
            }
        }

        void become(Game other) {
            copyRow(other.settings, settings);
            roads = other.roads;
            treasure = other.treasure;
            begun = other.begun;
            revealed = other.revealed;
            known = other.known;
            turns = other.turns;
            finder = other.finder;
            zero.become(other.zero);
            one.become(other.one);
            two.become(other.two);
            copyRow(other.told, told);
            copyRow(other.digs, digs);
            digsSoFar = other.digsSoFar;
        }

        int changeSetting(int setting, int value) {
            if (setting < 0 || setting >= settings.length
                    || setting >= LEAST_SETTINGS.length || setting >= MOST_SETTINGS.length
                    || value < LEAST_SETTINGS[setting] || value > MOST_SETTINGS[setting]) {
                return BAD_VALUE;
            }
            int previous = settings[setting];
            settings[setting] = value;
            return previous;
        }

        int layRoad(int place, int other) {
            int wrong = Land.wrongEnds(place, other);
            if (wrong != 0) {
                return wrong;
            }
            if (begun) {
                return NOT_POSSIBLE;
            }
            roads ^= Land.roadBetween(place, other);
            return Integer.bitCount(roads);
        }

        int hideTreasure(int place) {
            if (!Land.isPlace(place)) {
                return NO_SUCH;
            }
            if (begun) {
                return NOT_POSSIBLE;
            }
            int previous = treasure;
            treasure = place;
            return previous;
        }

        int start() {
            if (begun) {
                return NOT_POSSIBLE;
            }
            begun = true;
            known = Land.withWhatFollows(roads, revealed);
            return Integer.bitCount(known);
        }

        int makeClaim(int place, int other, int is) {
            int wrong = Land.wrongEnds(place, other);
            if (wrong != 0) {
                return wrong;
            }
            if (is != 0 && is != 1) {
                return BAD_VALUE;
            }
            if (!goesOn()) {
                return NOT_POSSIBLE;
            }
            Player claimant = seat(next());
            claimant.say(Land.roadBetween(place, other), is == 1);
            turns++;
            return claimant.claims();
        }

        int checkClaim(int player, int place, int other) {
            int wrong = isPlayer(player) ? Land.wrongEnds(place, other) : NO_SUCH;
            if (wrong != 0) {
                return wrong;
            }
            if (player == next()) {
                return BAD_VALUE;
            }
            int road = Land.roadBetween(place, other);
            Player checked = seat(player);
            boolean claimed = ((checked.saysThere | checked.saysNot) & road) != 0;
            if (!goesOn() || !claimed || (revealed & road) != 0) {
                return NOT_POSSIBLE;
            }
            return settleCheck(seat(next()), checked, road);
        }

        private int settleCheck(Player checker, Player checked, int road) {
            checker.checks++;
            checker.pay(checked, setting(TOLL));
            revealed |= road;
            known = Land.withWhatFollows(roads, revealed);
            boolean lie = (checked.lies(roads) & road) != 0;
            if (lie) {
                checker.checksThatFound++;
                checked.liesFound++;
                checked.pay(checker, setting(FINE));
            }
            turns++;
            return lie ? 1 : 0;
        }

        int digAt(int place) {
            if (!Land.isPlace(place)) {
                return NO_SUCH;
            }
            Player digger = seat(next());
            if (!goesOn() || digger.purse < setting(DIG)) {
                return NOT_POSSIBLE;
            }
            digger.purse -= setting(DIG);
            digger.diggings++;
            int distance = Land.distance(roads, place, treasure);
            noteDigging(place, distance);
            if (distance == 0) {
                finder = next();
                digger.take(setting(FIND));
            }
            turns++;
            return distance;
        }

        private void noteDigging(int place, int distance) {
            if (place >= 0 && place < told.length) {
                told[place] = distance;
            }
            if (digsSoFar >= 0 && digsSoFar < digs.length) {
                digs[digsSoFar] = place;
                digsSoFar++;
            }
        }

        int passTurn() {
            if (!goesOn()) {
                return NOT_POSSIBLE;
            }
            turns++;
            return next();
        }

        int next() {
            return turns % PLAYERS;
        }

        boolean goesOn() {
            return stage() == 1;
        }

        int stage() {
            if (!begun) {
                return 0;
            }
            return finder == NONE && turns < LAST_TURN ? 1 : 2;
        }

        Player seat(int player) {
            if (player == 0) {
                return zero;
            }
            return player == 1 ? one : two;
        }

        int setting(int setting) {
            return setting >= 0 && setting < settings.length ? settings[setting] : 0;
        }

        int toldOf(int place) {
            return place >= 0 && place < told.length ? told[place] : NONE;
        }

        int dugAs(int rank) {
            return rank >= 0 && rank < digsSoFar && rank < digs.length ? digs[rank] : NO_SUCH;
        }

        int seenOf(int road, int seen) {
            return (road & seen) != 0 ? isIn(road, roads) : NONE;
        }

        int knownTo(int player) {
            return known | Land.thirdOf(player);
        }

        int claimants(int road, boolean there) {
            return isIn(road, zero.saying(there))
                    | isIn(road, one.saying(there)) << 1
                    | isIn(road, two.saying(there)) << 2;
        }

        int shownLies() {
            return zero.shownLies(roads, known) + one.shownLies(roads, known) + two.shownLies(roads, known);
        }

        int moreKnownBy(int road) {
            return Integer.bitCount(Land.withWhatFollows(roads, known | road)) - Integer.bitCount(known);
        }

        boolean fitsWhatWasTold(int place) {
            for (int dug = 0; dug < told.length; dug++) {
                if (told[dug] != NONE && told[dug] != Land.distance(roads, place, dug)) {
                    return false;
                }
            }
            return true;
        }
    }

    /** A saved game, once there is one. */
    private static final class Slot {
        final Game game = new Game();
        boolean filled;
    }

    /** The states that undo goes back to, in a ring; one cell more than can be undone, for a change that may fail yet. */
    private static final class Past {
        static final int MOST = 6;
        static final int CELLS = MOST + 1;

        final Game[] cells = new Game[CELLS];
        int free;
        int kept;

        Past() {
            for (int cell = 0; cell < cells.length; cell++) {
                cells[cell] = new Game();
            }
        }

        void hold(Game game) {
            Game cell = cell(free);
            if (cell != null) {
                cell.become(game);
            }
        }

        void keep() {
            free = (free + 1) % CELLS;
            kept = Math.min(kept + 1, MOST);
        }

        boolean goBack(Game game) {
            Game latest = cell((free + MOST) % CELLS);
            if (kept == 0 || latest == null) {
                return false;
            }
            game.become(latest);
            free = (free + MOST) % CELLS;
            kept--;
            return true;
        }

        private Game cell(int index) {
            return index >= 0 && index < cells.length ? cells[index] : null;
        }
    }

    /** The text of orders. */
    private static final class Pad {
        static final int LONGEST = 80;
        static final int FIRST_SIGN = 33;
        static final int LAST_SIGN = 126;
        static final int CHARACTERS_OF_LONG = 8;

        // What is due next when a text is read.
        static final int WRONG = 0, ORDER = 1, DIGIT = 2, TWO_PLACES = 3, ONE_PLACE = 4, ORDER_END = 5;

        final char[] signs = new char[LONGEST];
        int length;

        int append(long characters) {
            int number = charactersIn(characters);
            if (number < 0) {
                return number;
            }
            if (length + number > LONGEST) {
                return TOO_MANY;
            }
            for (int left = number - 1; left >= 0; left--) {
                if (length >= 0 && length < signs.length) {
                    signs[length] = (char) codeIn(characters, left);
                    length++;
                }
            }
            return length;
        }

        private static int charactersIn(long characters) {
            int number = 0;
            while (number < CHARACTERS_OF_LONG && codeIn(characters, number) != 0) {
                int code = codeIn(characters, number);
                if (code < FIRST_SIGN || code > LAST_SIGN) {
                    return BAD_VALUE;
                }
                number++;
            }
            // A shift by all 64 bits would leave the number as it is.
            boolean more = number < CHARACTERS_OF_LONG && characters >>> 8 * number != 0;
            return number == 0 || more ? BAD_VALUE : number;
        }

        private static int codeIn(long characters, int fromLast) {
            return (int) (characters >>> 8 * fromLast) & 255;
        }

        int empty() {
            int had = length;
            length = 0;
            return had;
        }

        int sign(int at) {
            return at >= 0 && at < length && at < signs.length ? signs[at] : 0;
        }

        int placeAt(int at) {
            return sign(at) - 'a';
        }

        int digitAt(int at) {
            return sign(at) - '0';
        }

        boolean startsOrder(int at) {
            return at == 0 || sign(at - 1) == ';';
        }

        int firstFault() {
            int due = ORDER;
            for (int at = 0; at < length; at++) {
                due = dueAfter(due, sign(at));
                if (due == WRONG) {
                    return at;
                }
            }
            return due == ORDER_END ? NONE : length;
        }

        private static int dueAfter(int due, int sign) {
            switch (due) {
                case ORDER:
                    return dueAfterLetter(sign);
                case DIGIT:
                    return sign >= '0' && sign <= '9' ? TWO_PLACES : WRONG;
                case TWO_PLACES:
                    return isPlaceSign(sign) ? ONE_PLACE : WRONG;
                case ONE_PLACE:
                    return isPlaceSign(sign) ? ORDER_END : WRONG;
                case ORDER_END:
                    return sign == ';' ? ORDER : WRONG;
                default:
                    return WRONG;
            }
        }

        private static int dueAfterLetter(int sign) {
            switch (sign) {
                case 'r':
                case '+':
                case '-':
                    return TWO_PLACES;
                case 't':
                case 'd':
                    return ONE_PLACE;
                case 'c':
                    return DIGIT;
                case 'b':
                case 'p':
                    return ORDER_END;
                default:
                    return WRONG;
            }
        }

        private static boolean isPlaceSign(int sign) {
            return Land.isPlace(sign - 'a');
        }
    }
}
