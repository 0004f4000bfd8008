import java.util.ArrayDeque;
import java.util.ArrayList;
import java.util.Arrays;
import java.util.Deque;
import java.util.List;
import java.util.regex.Matcher;
import java.util.regex.Pattern;

/** The document once more, written for plainness alone and with the Java library: ModelTest compares LiarMaps with it. */
final class Model {
    private static final int NO_SUCH = -1, BAD_VALUE = -2, BAD_TEXT = -3, TOO_MANY = -4, NOT_POSSIBLE = -5, NONE = -6;
    private static final int[][] RANGES = {{0, 20}, {1, 50}, {0, 50}, {1, 200}};
    private static final Pattern TEXT = Pattern.compile("ORDER(;ORDER)*".replace("ORDER",
            "(?:r[a-h][a-h]|t[a-h]|b|[+-][a-h][a-h]|c[0-9][a-h][a-h]|d[a-h]|p)"));

    private static final class State {
        int[] settings = {2, 5, 4, 40};
        boolean[][] road = new boolean[8][8];
        boolean[][] revealed = new boolean[8][8];
        Boolean[][][] claimed = new Boolean[3][8][8];
        int treasure = 0;
        int[] degree = null;
        int turns = 0;
        int finder = NONE;
        int[] purse = {20, 20, 20};
        int[] lies = new int[3];
        int[] checks = new int[3];
        int[] found = new int[3];
        int[] diggings = new int[3];
        List<Integer> dug = new ArrayList<>();
        List<Integer> told = new ArrayList<>();

        State copy() {
            State other = new State();
            other.settings = settings.clone();
            for (int i = 0; i < 8; i++) {
                other.road[i] = road[i].clone();
                other.revealed[i] = revealed[i].clone();
                for (int p = 0; p < 3; p++) {
                    other.claimed[p][i] = claimed[p][i].clone();
                }
            }
            other.treasure = treasure;
            other.degree = degree == null ? null : degree.clone();
            other.turns = turns;
            other.finder = finder;
            other.purse = purse.clone();
            other.lies = lies.clone();
            other.checks = checks.clone();
            other.found = found.clone();
            other.diggings = diggings.clone();
            other.dug = new ArrayList<>(dug);
            other.told = new ArrayList<>(told);
            return other;
        }
    }

    private State s = new State();
    private final Deque<State> history = new ArrayDeque<>();
    private final State[] slots = new State[2];
    private String pad = "";
    private boolean inText = false;

    private void record() {
        if (!inText) {
            history.addLast(s.copy());
            if (history.size() > 6) {
                history.removeFirst();
            }
        }
    }

    private static boolean noPlace(int place) {
        return place < 0 || place > 7;
    }

    private static boolean noPlayer(int player) {
        return player < 0 || player > 2;
    }

    private static int number(int place, int other) {
        int number = 0;
        for (int low = 0; low < 8; low++) {
            for (int high = low + 1; high < 8; high++) {
                if (low == Math.min(place, other) && high == Math.max(place, other)) {
                    return number;
                }
                number++;
            }
        }
        throw new IllegalStateException();
    }

    private boolean goingOn() {
        return s.degree != null && s.finder == NONE && s.turns < 150;
    }

    private int turn() {
        return s.turns % 3;
    }

    private static int roads(boolean[][] road) {
        int ends = 0;
        for (boolean[] row : road) {
            for (boolean there : row) {
                ends += there ? 1 : 0;
            }
        }
        return ends / 2;
    }

    /** What all know, by pairs of places: null if it is not known. */
    private Boolean[][] known(boolean[][] revealed) {
        Boolean[][] known = new Boolean[8][8];
        for (int a = 0; a < 8; a++) {
            for (int b = 0; b < 8; b++) {
                if (revealed[a][b]) {
                    known[a][b] = s.road[a][b];
                }
            }
        }
        boolean again = s.degree != null;
        while (again) {
            again = false;
            for (int a = 0; a < 8; a++) {
                int there = 0;
                int open = 0;
                for (int b = 0; b < 8; b++) {
                    there += known[a][b] == Boolean.TRUE ? 1 : 0;
                    open += a != b && known[a][b] == null ? 1 : 0;
                }
                if (open > 0 && (there == s.degree[a] || there + open == s.degree[a])) {
                    again = true;
                    boolean follows = there != s.degree[a];
                    for (int b = 0; b < 8; b++) {
                        if (a != b && known[a][b] == null) {
                            known[a][b] = follows;
                            known[b][a] = follows;
                        }
                    }
                }
            }
        }
        return known;
    }

    private static int knownNumber(Boolean[][] known) {
        int ends = 0;
        for (Boolean[] row : known) {
            for (Boolean there : row) {
                ends += there != null ? 1 : 0;
            }
        }
        return ends / 2;
    }

    private static int[][] distances(boolean[][] road) {
        int[][] way = new int[8][8];
        for (int a = 0; a < 8; a++) {
            for (int b = 0; b < 8; b++) {
                way[a][b] = a == b ? 0 : road[a][b] ? 1 : 99;
            }
        }
        for (int by = 0; by < 8; by++) {
            for (int a = 0; a < 8; a++) {
                for (int b = 0; b < 8; b++) {
                    way[a][b] = Math.min(way[a][b], way[a][by] + way[by][b]);
                }
            }
        }
        return way;
    }

    int set(int setting, int value) {
        if (setting < 0 || setting > 3 || value < RANGES[setting][0] || value > RANGES[setting][1]) {
            return BAD_VALUE;
        }
        record();
        int previous = s.settings[setting];
        s.settings[setting] = value;
        return previous;
    }

    int road(int place, int other) {
        if (noPlace(place) || noPlace(other)) {
            return NO_SUCH;
        }
        if (place == other) {
            return BAD_VALUE;
        }
        if (s.degree != null) {
            return NOT_POSSIBLE;
        }
        record();
        s.road[place][other] = !s.road[place][other];
        s.road[other][place] = s.road[place][other];
        return roads(s.road);
    }

    int treasure(int place) {
        if (noPlace(place)) {
            return NO_SUCH;
        }
        if (s.degree != null) {
            return NOT_POSSIBLE;
        }
        record();
        int previous = s.treasure;
        s.treasure = place;
        return previous;
    }

    int begin() {
        if (s.degree != null) {
            return NOT_POSSIBLE;
        }
        record();
        s.degree = new int[8];
        for (int a = 0; a < 8; a++) {
            for (int b = 0; b < 8; b++) {
                s.degree[a] += s.road[a][b] ? 1 : 0;
            }
        }
        return knownNumber(known(s.revealed));
    }

    int claim(int place, int other, int is) {
        if (noPlace(place) || noPlace(other)) {
            return NO_SUCH;
        }
        if (place == other || is != 0 && is != 1) {
            return BAD_VALUE;
        }
        if (!goingOn()) {
            return NOT_POSSIBLE;
        }
        record();
        int who = turn();
        s.claimed[who][Math.min(place, other)][Math.max(place, other)] = is == 1;
        s.turns++;
        return claims(who);
    }

    private int claims(int who) {
        int claims = 0;
        for (Boolean[] row : s.claimed[who]) {
            for (Boolean there : row) {
                claims += there != null ? 1 : 0;
            }
        }
        return claims;
    }

    int check(int player, int place, int other) {
        if (noPlayer(player) || noPlace(place) || noPlace(other)) {
            return NO_SUCH;
        }
        int who = turn();
        if (player == who || place == other) {
            return BAD_VALUE;
        }
        Boolean there = s.claimed[player][Math.min(place, other)][Math.max(place, other)];
        if (!goingOn() || there == null || s.revealed[place][other]) {
            return NOT_POSSIBLE;
        }
        record();
        s.checks[who]++;
        for (int coin = 0; coin < s.settings[0] && s.purse[who] > 0; coin++) {
            s.purse[who]--;
            s.purse[player]++;
        }
        s.revealed[place][other] = true;
        s.revealed[other][place] = true;
        s.turns++;
        if (there == s.road[place][other]) {
            return 0;
        }
        s.found[who]++;
        s.lies[player]++;
        for (int coin = 0; coin < s.settings[1] && s.purse[player] > 0; coin++) {
            s.purse[player]--;
            s.purse[who]++;
        }
        return 1;
    }

    int dig(int place) {
        if (noPlace(place)) {
            return NO_SUCH;
        }
        int who = turn();
        if (!goingOn() || s.purse[who] < s.settings[2]) {
            return NOT_POSSIBLE;
        }
        record();
        s.purse[who] -= s.settings[2];
        s.diggings[who]++;
        int distance = distances(s.road)[place][s.treasure];
        s.dug.add(place);
        s.told.add(distance);
        if (distance == 0) {
            s.purse[who] = Math.min(9999, s.purse[who] + s.settings[3]);
            s.finder = who;
        }
        s.turns++;
        return distance;
    }

    int pass() {
        if (!goingOn()) {
            return NOT_POSSIBLE;
        }
        record();
        s.turns++;
        return turn();
    }

    private static int answer(Boolean there) {
        return there == null ? NONE : there ? 1 : 0;
    }

    int ofRoad(int place, int other, int what) {
        if (noPlace(place) || noPlace(other)) {
            return NO_SUCH;
        }
        if (place == other || what < 0 || what > 5) {
            return BAD_VALUE;
        }
        if (what < 2) {
            return what == 0 ? number(place, other) : number(place, other) % 3;
        }
        if (what == 2) {
            return s.revealed[place][other] ? 1 : 0;
        }
        if (what == 3) {
            return answer(known(s.revealed)[place][other]);
        }
        int set = 0;
        for (int p = 0; p < 3; p++) {
            Boolean there = s.claimed[p][Math.min(place, other)][Math.max(place, other)];
            if (there != null && there == (what == 4)) {
                set += 1 << p;
            }
        }
        return set;
    }

    int knows(int player, int place, int other) {
        if (noPlayer(player) || noPlace(place) || noPlace(other)) {
            return NO_SUCH;
        }
        if (place == other) {
            return BAD_VALUE;
        }
        if (number(place, other) % 3 == player) {
            return s.road[place][other] ? 1 : 0;
        }
        return answer(known(s.revealed)[place][other]);
    }

    private int shown(int player) {
        Boolean[][] known = known(s.revealed);
        int shown = 0;
        for (int a = 0; a < 8; a++) {
            for (int b = 0; b < 8; b++) {
                Boolean there = s.claimed[player][a][b];
                shown += there != null && known[a][b] != null && !there.equals(known[a][b]) ? 1 : 0;
            }
        }
        return shown;
    }

    int player(int player, int what) {
        if (noPlayer(player)) {
            return NO_SUCH;
        }
        switch (what) {
            case 0: return s.purse[player];
            case 1: return claims(player);
            case 2: return shown(player);
            case 3: return s.lies[player];
            case 4: return s.checks[player];
            case 5: return s.found[player];
            case 6: return s.diggings[player];
            case 7:
                int knows = 0;
                for (int a = 0; a < 8; a++) {
                    for (int b = a + 1; b < 8; b++) {
                        knows += knows(player, a, b) != NONE ? 1 : 0;
                    }
                }
                return knows;
            default: return BAD_VALUE;
        }
    }

    int place(int place, int what) {
        if (noPlace(place)) {
            return NO_SUCH;
        }
        Boolean[] known = known(s.revealed)[place];
        int there = 0;
        int open = 0;
        int beside = 0;
        for (int other = 0; other < 8; other++) {
            if (other != place && known[other] == null) {
                open++;
            } else if (other != place && known[other]) {
                there++;
                beside += 1 << other;
            }
        }
        switch (what) {
            case 0: return s.degree == null ? NONE : s.degree[place];
            case 1: return there;
            case 2: return open;
            case 3: return s.dug.contains(place) ? s.told.get(s.dug.indexOf(place)) : NONE;
            case 4: return beside;
            default: return BAD_VALUE;
        }
    }

    int dug(int rank) {
        return rank < 0 || rank >= s.dug.size() ? NO_SUCH : s.dug.get(rank);
    }

    int count(int what) {
        switch (what) {
            case 0: return s.turns;
            case 1: return turn();
            case 2: return s.degree == null ? 0 : goingOn() ? 1 : 2;
            case 3: return s.finder;
            case 4: return knownNumber(known(s.revealed));
            case 5: return roads(knownThere());
            case 6: return shown(0) + shown(1) + shown(2);
            case 7: return roads(s.revealed);
            case 8: case 9: case 10: case 11: return s.settings[what - 8];
            case 12: return pad.length();
            case 13: return history.size();
            default: return BAD_VALUE;
        }
    }

    private boolean[][] knownThere() {
        Boolean[][] known = known(s.revealed);
        boolean[][] there = new boolean[8][8];
        for (int a = 0; a < 8; a++) {
            for (int b = 0; b < 8; b++) {
                there[a][b] = known[a][b] == Boolean.TRUE;
            }
        }
        return there;
    }

    int canBe() {
        int set = 0;
        int[][] distances = distances(s.road);
        for (int place = 0; place < 8 && s.degree != null; place++) {
            boolean fits = true;
            for (int rank = 0; rank < s.dug.size(); rank++) {
                fits &= distances[s.dug.get(rank)][place] >= 99 == s.told.get(rank) >= 99
                        && (s.told.get(rank) >= 99 || distances[s.dug.get(rank)][place] == s.told.get(rank));
            }
            set += fits ? 1 << place : 0;
        }
        return set;
    }

    int shows(int place, int other) {
        if (noPlace(place) || noPlace(other)) {
            return NO_SUCH;
        }
        if (place == other) {
            return BAD_VALUE;
        }
        if (s.degree == null) {
            return NOT_POSSIBLE;
        }
        boolean[][] revealed = new boolean[8][];
        Arrays.setAll(revealed, i -> s.revealed[i].clone());
        revealed[place][other] = true;
        revealed[other][place] = true;
        return knownNumber(known(revealed)) - knownNumber(known(s.revealed));
    }

    int bestShow(int what) {
        if (what < 0 || what > 1) {
            return BAD_VALUE;
        }
        if (s.degree == null) {
            return NOT_POSSIBLE;
        }
        int best = NONE;
        int most = 0;
        for (int a = 0; a < 8; a++) {
            for (int b = a + 1; b < 8; b++) {
                if (shows(a, b) > most) {
                    most = shows(a, b);
                    best = number(a, b);
                }
            }
        }
        return most == 0 ? NONE : what == 0 ? best : most;
    }

    int knownWay(int place, int other) {
        if (noPlace(place) || noPlace(other)) {
            return NO_SUCH;
        }
        int way = distances(knownThere())[place][other];
        return way >= 99 ? NONE : way;
    }

    int put(long characters) {
        StringBuilder text = new StringBuilder();
        boolean ended = false;
        for (int i = 0; i < 8; i++) {
            int code = (int) (characters >>> 8 * i) & 255;
            if (code == 0) {
                ended = true;
            } else if (ended || code < 33 || code > 126) {
                return BAD_VALUE;
            } else {
                text.insert(0, (char) code);
            }
        }
        if (text.length() == 0) {
            return BAD_VALUE;
        }
        if (pad.length() + text.length() > 80) {
            return TOO_MANY;
        }
        pad += text;
        return pad.length();
    }

    int wipe() {
        int had = pad.length();
        pad = "";
        return had;
    }

    int fault() {
        if (TEXT.matcher(pad).matches()) {
            return NONE;
        }
        // The first beginning of the text with which no text of the form begins ends with the fault.
        for (int end = 1; end <= pad.length(); end++) {
            Matcher matcher = TEXT.matcher(pad.substring(0, end));
            if (!matcher.matches() && !matcher.hitEnd()) {
                return end - 1;
            }
        }
        return pad.length();
    }

    int carryOut() {
        if (fault() != NONE) {
            return BAD_TEXT;
        }
        record();
        inText = true;
        int done = 0;
        for (String order : pad.split(";")) {
            if (carryOut(order) < 0) {
                break;
            }
            done++;
        }
        inText = false;
        pad = "";
        return done;
    }

    private int carryOut(String order) {
        int last = order.charAt(order.length() - 1) - 'a';
        int first = order.length() > 1 ? order.charAt(order.length() - 2) - 'a' : 0;
        switch (order.charAt(0)) {
            case 'r': return road(first, last);
            case 't': return treasure(last);
            case 'b': return begin();
            case '+': return claim(first, last, 1);
            case '-': return claim(first, last, 0);
            case 'c': return check(order.charAt(1) - '0', first, last);
            case 'd': return dig(last);
            default: return pass();
        }
    }

    int undo() {
        if (history.isEmpty()) {
            return NOT_POSSIBLE;
        }
        s = history.removeLast();
        return history.size();
    }

    int save(int slot) {
        if (slot < 0 || slot > 1) {
            return BAD_VALUE;
        }
        slots[slot] = s.copy();
        return roads(s.road);
    }

    int restore(int slot) {
        if (slot < 0 || slot > 1) {
            return BAD_VALUE;
        }
        if (slots[slot] == null) {
            return NOT_POSSIBLE;
        }
        record();
        s = slots[slot].copy();
        return roads(s.road);
    }
}
