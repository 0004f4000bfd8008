import java.util.Random;

/** Runs of calls that are the same each time, on LiarMaps and on the model; all promises. */
public final class ModelTest {
    private static final int RUNS = 2500;
    private static final int CALLS = 512;
    private static final int KINDS = 25;
    private static final String[] STARTS = {"few roads", "some roads", "many roads", "a tree"};

    private static final Due due = new Due();

    private final Random random;
    private final String name;
    private final LiarMaps maps = new LiarMaps();
    private final Model model = new Model();
    private final int wrongInputs;
    private final int[] often = new int[KINDS];
    private int calls = 0;

    private ModelTest(int run) {
        random = new Random(run);
        name = "run " + run + ", call ";
        wrongInputs = run % 5 == 0 ? 4 : 60;
        for (int kind = 0; kind < KINDS; kind++) {
            often[kind] = 1 + random.nextInt(12);
        }
        // Most runs stay in their game for long.
        if (run % 3 != 0) {
            for (int kind : new int[] {0, 1, 2, 22, 24}) {
                often[kind] = 1;
            }
        }
        if (run % 3 == 1) {
            often[6] = 1;
            often[7] = 40;
        }
    }

    public static void main(String[] args) {
        for (int run = 0; run < RUNS; run++) {
            new ModelTest(run).play(STARTS[run % STARTS.length]);
        }
        due.end("ModelTest");
    }

    private void play(String start) {
        lay(start);
        while (calls < CALLS) {
            call(kind());
        }
    }

    private void is(String call, int got, int want) {
        due.is(name + calls + ", " + call, got, want);
        calls++;
    }

    private void lay(String start) {
        int roads = start.equals("few roads") ? 4 : start.equals("some roads") ? 11 : 22;
        for (int i = 0; i < roads && !start.equals("a tree"); i++) {
            road(random.nextInt(8), random.nextInt(8));
        }
        for (int place = 1; place < 8 && start.equals("a tree"); place++) {
            road(place, random.nextInt(place));
        }
        int place = random.nextInt(8);
        is("treasure(" + place + ")", maps.treasure(place), model.treasure(place));
        if (random.nextInt(5) != 0) {
            is("begin()", maps.begin(), model.begin());
        }
        if (random.nextInt(3) == 0) {
            int coins = random.nextInt(3);
            is("set(2, " + coins + ")", maps.set(2, coins), model.set(2, coins));
        }
    }

    private void road(int place, int other) {
        is("road(" + place + ", " + other + ")", maps.road(place, other), model.road(place, other));
    }

    private int kind() {
        int all = 0;
        for (int kind = 0; kind < KINDS; kind++) {
            all += often[kind];
        }
        int chosen = random.nextInt(all);
        int kind = 0;
        while (chosen >= often[kind]) {
            chosen -= often[kind];
            kind++;
        }
        return kind;
    }

    /** A number from 0 to most, or, seldom, one that is out of this range. */
    private int number(int most) {
        if (random.nextInt(wrongInputs) != 0) {
            return random.nextInt(most + 1);
        }
        int[] wrong = {-1, most + 1, -2, most + 2, Integer.MIN_VALUE, Integer.MAX_VALUE, 31, 32, 64, -32};
        return wrong[random.nextInt(wrong.length)];
    }

    private void call(int kind) {
        int a = number(7);
        int b = number(7);
        switch (kind) {
            case 0:
                int setting = number(3);
                int value = number(random.nextBoolean() ? 20 : 200);
                is("set(" + setting + ", " + value + ")", maps.set(setting, value), model.set(setting, value));
                break;
            case 1:
                road(a, b);
                break;
            case 2:
                is("treasure(" + a + ")", maps.treasure(a), model.treasure(a));
                break;
            case 3:
                is("begin()", maps.begin(), model.begin());
                break;
            case 4:
                int is = number(1);
                is("claim(" + a + ", " + b + ", " + is + ")", maps.claim(a, b, is), model.claim(a, b, is));
                break;
            case 5:
                check(a, b);
                break;
            case 6:
                is("dig(" + a + ")", maps.dig(a), model.dig(a));
                break;
            case 7:
                is("pass()", maps.pass(), model.pass());
                break;
            default:
                ask(kind, a, b);
        }
    }

    private void check(int a, int b) {
        int player = number(2);
        // A claim to be checked is seldom hit by chance.
        for (int tries = 0; tries < 200 && player != model.count(1); tries++) {
            int claimants = model.ofRoad(a, b, 4) | model.ofRoad(a, b, 5);
            if (claimants >= 0 && (claimants >> player & 1) != 0) {
                break;
            }
            a = number(7);
            b = number(7);
        }
        is("check(" + player + ", " + a + ", " + b + ")", maps.check(player, a, b), model.check(player, a, b));
    }

    private void ask(int kind, int a, int b) {
        int player = number(2);
        switch (kind) {
            case 8:
                int ofRoad = number(5);
                is("ofRoad(" + a + ", " + b + ", " + ofRoad + ")", maps.ofRoad(a, b, ofRoad), model.ofRoad(a, b, ofRoad));
                break;
            case 9:
                is("knows(" + player + ", " + a + ", " + b + ")", maps.knows(player, a, b), model.knows(player, a, b));
                break;
            case 10:
                int ofPlayer = number(7);
                is("player(" + player + ", " + ofPlayer + ")", maps.player(player, ofPlayer),
                        model.player(player, ofPlayer));
                break;
            case 11:
                int ofPlace = number(4);
                is("place(" + a + ", " + ofPlace + ")", maps.place(a, ofPlace), model.place(a, ofPlace));
                break;
            case 12:
                int rank = number(random.nextBoolean() ? 5 : 60);
                is("dug(" + rank + ")", maps.dug(rank), model.dug(rank));
                break;
            case 13:
                int what = number(13);
                is("count(" + what + ")", maps.count(what), model.count(what));
                break;
            case 14:
                is("canBe()", maps.canBe(), model.canBe());
                break;
            case 15:
                is("shows(" + a + ", " + b + ")", maps.shows(a, b), model.shows(a, b));
                break;
            case 16:
                int best = number(1);
                is("bestShow(" + best + ")", maps.bestShow(best), model.bestShow(best));
                break;
            case 17:
                is("knownWay(" + a + ", " + b + ")", maps.knownWay(a, b), model.knownWay(a, b));
                break;
            default:
                textOrUndo(kind);
        }
    }

    private void textOrUndo(int kind) {
        switch (kind) {
            case 18:
                put(random.nextInt(4) == 0 ? characters() : order());
                break;
            case 19:
                is("wipe()", maps.wipe(), model.wipe());
                break;
            case 20:
                is("fault()", maps.fault(), model.fault());
                break;
            case 21:
                is("carryOut()", maps.carryOut(), model.carryOut());
                break;
            case 22:
                is("undo()", maps.undo(), model.undo());
                break;
            case 23:
                int into = number(1);
                is("save(" + into + ")", maps.save(into), model.save(into));
                break;
            default:
                int from = number(1);
                is("restore(" + from + ")", maps.restore(from), model.restore(from));
        }
    }

    private void put(long characters) {
        is("put(" + characters + ")", maps.put(characters), model.put(characters));
    }

    private long characters() {
        switch (random.nextInt(4)) {
            case 0:
                return random.nextLong();
            case 1:
                return random.nextLong() & 0x7F7F7F7F7F7F7F7FL;
            case 2:
                return random.nextInt(160);
            default:
                StringBuilder text = new StringBuilder();
                for (int left = 1 + random.nextInt(8); left > 0; left--) {
                    text.append("rtb+-cdp;abh019i".charAt(random.nextInt(16)));
                }
                return Due.number(text.toString());
        }
    }

    private long order() {
        String[] orders = {"rAB", "tA", "b", "+AB", "-AB", "cPAB", "dA", "p"};
        String order = orders[random.nextInt(orders.length)];
        order = order.replace('A', (char) ('a' + random.nextInt(8))).replace('B', (char) ('a' + random.nextInt(8)));
        order = order.replace('P', (char) ('0' + random.nextInt(4)));
        return Due.number(model.count(12) > 0 ? ";" + order : order);
    }
}
