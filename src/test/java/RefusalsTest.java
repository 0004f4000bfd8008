import java.util.function.Supplier;
import java.util.function.ToIntFunction;

/**
 * All promises: every method, with arguments at both ends of their ranges and outside of them, ahead of the game, in it
 * and behind it: which error comes first, and that a call that returns one changes nothing, nor one that only asks.
 */
public final class RefusalsTest {
    private static final int LOW = Integer.MIN_VALUE, HIGH = Integer.MAX_VALUE;
    private static final int NO_SUCH = LiarMaps.NO_SUCH, BAD_VALUE = LiarMaps.BAD_VALUE;
    private static final int NOT_POSSIBLE = LiarMaps.NOT_POSSIBLE;
    private static final int NO_ERROR = 0;
    private static final int[] PLACES = {LOW, -1, 0, 1, 2, 7, 8, HIGH};
    private static final int[] PLAYERS = {LOW, -1, 0, 1, 2, 3, HIGH};

    private static final Due due = new Due();

    private final String name;
    private final Supplier<LiarMaps> made;
    private final boolean begun;
    private final boolean goesOn;
    private final int turnOf;
    private final String[] unchanged;

    private RefusalsTest(String name, Supplier<LiarMaps> made) {
        this.name = name;
        this.made = made;
        LiarMaps facts = made.get();
        begun = facts.count(2) > 0;
        goesOn = facts.count(2) == 1;
        turnOf = facts.count(1);
        unchanged = new String[] {historyOf(made.get()), slotsOf(made.get()), padOf(made.get())};
    }

    public static void main(String[] args) {
        new RefusalsTest("new", LiarMaps::new).all();
        new RefusalsTest("ahead", RefusalsTest::ahead).all();
        new RefusalsTest("going on", RefusalsTest::goingOn).all();
        new RefusalsTest("too few coins", RefusalsTest::tooFewCoins).all();
        new RefusalsTest("found", RefusalsTest::found).all();
        new RefusalsTest("150 turns", RefusalsTest::late).all();
        due.end("RefusalsTest");
    }

    // Each of these has a full history, slot 0 filled, and an order, or a part of one, at the pad.

    private static LiarMaps ahead() {
        LiarMaps maps = new LiarMaps();
        maps.treasure(3);
        maps.road(0, 1);
        maps.save(0);
        maps.road(1, 2);
        maps.set(LiarMaps.TOLL, 3);
        maps.road(2, 7);
        maps.road(4, 5);
        maps.treasure(5);
        maps.put(Due.number("rd"));
        return maps;
    }

    /** The turn of 1; 0 claims 0-1 and 2-7, 1 claims 0-2, which is revealed, and 2 claims 1-7. */
    private static LiarMaps goingOn() {
        LiarMaps maps = TurnsTest.ring();
        maps.claim(0, 1, 0);
        maps.claim(0, 2, 1);
        maps.save(0);
        maps.check(1, 0, 2);
        maps.claim(2, 7, 1);
        maps.dig(5);
        maps.claim(1, 7, 1);
        maps.pass();
        maps.put(Due.number("dh"));
        return maps;
    }

    private static LiarMaps tooFewCoins() {
        LiarMaps maps = goingOn();
        maps.set(LiarMaps.DIG, 50);
        return maps;
    }

    private static LiarMaps found() {
        LiarMaps maps = goingOn();
        maps.dig(4);
        return maps;
    }

    private static LiarMaps late() {
        LiarMaps maps = goingOn();
        maps.wipe();
        for (int texts = 0; texts < 4; texts++) {
            Due.type(maps, "p;p;p;p;p;p;p;p;p;p;p;p;p;p;p;p;p;p;p;p;p;p;p;p;p;p;p;p;p;p;p;p;p;p;p;p");
            maps.carryOut();
        }
        maps.put(Due.number("p;"));
        return maps;
    }

    private static String historyOf(LiarMaps maps) {
        StringBuilder rows = new StringBuilder(Look.of(maps));
        rows.append("count(13)=").append(maps.count(13)).append('\n');
        for (int times = 0; times < 7; times++) {
            rows.append("undo()=").append(maps.undo()).append('\n');
        }
        return rows + Look.state(maps);
    }

    private static String slotsOf(LiarMaps maps) {
        return "restore(0)=" + maps.restore(0) + "\n" + Look.state(maps) + "restore(1)=" + maps.restore(1) + "\n";
    }

    private static String padOf(LiarMaps maps) {
        String rows = "fault()=" + maps.fault() + "\ncarryOut()=" + maps.carryOut() + "\n" + Look.of(maps);
        maps.put('h');
        return rows + "fault()=" + maps.fault() + "\ncarryOut()=" + maps.carryOut() + "\n" + Look.of(maps);
    }

    private void changes(String call, int want, ToIntFunction<LiarMaps> made) {
        LiarMaps maps = this.made.get();
        int got = made.applyAsInt(maps);
        if (want == NO_ERROR) {
            due.is(name + ": " + call + " is no error", got < 0 ? got : 0, 0);
        } else {
            due.is(name + ": " + call, got, want);
            staysAsItWas(call, maps, made);
        }
    }

    private void asks(String call, int want, ToIntFunction<LiarMaps> made) {
        LiarMaps maps = this.made.get();
        int got = made.applyAsInt(maps);
        boolean error = got < 0 && got != LiarMaps.NONE;
        due.is(name + ": " + call, error ? got : 0, want);
        staysAsItWas(call, maps, made);
    }

    private void staysAsItWas(String call, LiarMaps maps, ToIntFunction<LiarMaps> made) {
        due.same(name + ": history behind " + call, historyOf(maps), unchanged[0]);
        LiarMaps other = this.made.get();
        made.applyAsInt(other);
        due.same(name + ": slots behind " + call, slotsOf(other), unchanged[1]);
        LiarMaps third = this.made.get();
        made.applyAsInt(third);
        due.same(name + ": pad behind " + call, padOf(third), unchanged[2]);
    }

    private void all() {
        settings();
        treasuresAndDiggings();
        for (int a : PLACES) {
            for (int b : PLACES) {
                pairOfPlaces(a, b);
            }
        }
        askedOfOne();
        withoutArguments();
        slots();
        characters();
    }

    private static boolean noPlace(int place) {
        return place < 0 || place > 7;
    }

    private void settings() {
        int[] least = {0, 1, 0, 1};
        int[] most = {20, 50, 50, 200};
        for (int setting : new int[] {LOW, -1, 0, 1, 2, 3, 4, HIGH}) {
            boolean none = setting < 0 || setting > 3;
            for (int value : new int[] {LOW, -1, 0, 1, 2, 20, 21, 50, 51, 200, 201, HIGH}) {
                boolean bad = none || value < least[setting] || value > most[setting];
                changes("2: set(" + setting + ", " + value + ")", bad ? BAD_VALUE : NO_ERROR,
                        maps -> maps.set(setting, value));
            }
        }
    }

    private void treasuresAndDiggings() {
        boolean paid = made.get().player(turnOf, 0) >= made.get().count(10);
        for (int place : PLACES) {
            changes("4: treasure(" + place + ")", noPlace(place) ? NO_SUCH : begun ? NOT_POSSIBLE : NO_ERROR,
                    maps -> maps.treasure(place));
            changes("8: dig(" + place + ")", noPlace(place) ? NO_SUCH : goesOn && paid ? NO_ERROR : NOT_POSSIBLE,
                    maps -> maps.dig(place));
        }
    }

    private void pairOfPlaces(int a, int b) {
        String ends = a + ", " + b;
        int wrong = noPlace(a) || noPlace(b) ? NO_SUCH : a == b ? BAD_VALUE : NO_ERROR;
        changes("3: road(" + ends + ")", wrong != 0 ? wrong : begun ? NOT_POSSIBLE : NO_ERROR,
                maps -> maps.road(a, b));
        for (int is : new int[] {LOW, -1, 0, 1, 2, HIGH}) {
            int wrongClaim = wrong != 0 ? wrong : is < 0 || is > 1 ? BAD_VALUE : goesOn ? NO_ERROR : NOT_POSSIBLE;
            changes("6: claim(" + ends + ", " + is + ")", wrongClaim, maps -> maps.claim(a, b, is));
        }
        for (int player : PLAYERS) {
            boolean nobody = player < 0 || player > 2;
            changes("7: check(" + player + ", " + ends + ")", wrongCheck(player, a, b), maps -> maps.check(player, a, b));
            asks("11: knows(" + player + ", " + ends + ")", nobody ? NO_SUCH : wrong, maps -> maps.knows(player, a, b));
        }
        for (int what : new int[] {LOW, -1, 0, 1, 2, 3, 4, 5, 6, HIGH}) {
            boolean bad = what < 0 || what > 5;
            asks("10: ofRoad(" + ends + ", " + what + ")", wrong != 0 ? wrong : bad ? BAD_VALUE : NO_ERROR,
                    maps -> maps.ofRoad(a, b, what));
        }
        asks("17: shows(" + ends + ")", wrong != 0 ? wrong : begun ? NO_ERROR : NOT_POSSIBLE, maps -> maps.shows(a, b));
        asks("19: knownWay(" + ends + ")", wrong == NO_SUCH ? NO_SUCH : NO_ERROR, maps -> maps.knownWay(a, b));
    }

    private int wrongCheck(int player, int a, int b) {
        if (player < 0 || player > 2 || noPlace(a) || noPlace(b)) {
            return NO_SUCH;
        }
        if (player == turnOf || a == b) {
            return BAD_VALUE;
        }
        LiarMaps facts = made.get();
        boolean claims = ((facts.ofRoad(a, b, 4) | facts.ofRoad(a, b, 5)) >> player & 1) != 0;
        return goesOn && claims && facts.ofRoad(a, b, 2) == 0 ? NO_ERROR : NOT_POSSIBLE;
    }

    private void askedOfOne() {
        LiarMaps facts = made.get();
        int diggings = facts.player(0, 6) + facts.player(1, 6) + facts.player(2, 6);
        for (int what : new int[] {LOW, -1, 0, 1, 2, 3, 4, 5, 6, 7, 8, 12, 13, 14, HIGH}) {
            for (int player : PLAYERS) {
                asks("12: player(" + player + ", " + what + ")",
                        player < 0 || player > 2 ? NO_SUCH : what < 0 || what > 7 ? BAD_VALUE : NO_ERROR,
                        maps -> maps.player(player, what));
            }
            for (int place : PLACES) {
                asks("13: place(" + place + ", " + what + ")",
                        noPlace(place) ? NO_SUCH : what < 0 || what > 4 ? BAD_VALUE : NO_ERROR,
                        maps -> maps.place(place, what));
            }
            asks("15: count(" + what + ")", what < 0 || what > 13 ? BAD_VALUE : NO_ERROR, maps -> maps.count(what));
            asks("18: bestShow(" + what + ")",
                    what != 0 && what != 1 ? BAD_VALUE : begun ? NO_ERROR : NOT_POSSIBLE, maps -> maps.bestShow(what));
            asks("14: dug(" + what + ")", what < 0 || what >= diggings ? NO_SUCH : NO_ERROR, maps -> maps.dug(what));
        }
    }

    private void withoutArguments() {
        changes("5: begin()", begun ? NOT_POSSIBLE : NO_ERROR, LiarMaps::begin);
        changes("9: pass()", goesOn ? NO_ERROR : NOT_POSSIBLE, LiarMaps::pass);
        asks("16: canBe()", NO_ERROR, LiarMaps::canBe);
        asks("22: fault()", NO_ERROR, LiarMaps::fault);
        boolean fault = made.get().fault() != LiarMaps.NONE;
        changes("23: carryOut()", fault ? LiarMaps.BAD_TEXT : NO_ERROR, LiarMaps::carryOut);
        changes("24: undo()", made.get().count(13) == 0 ? NOT_POSSIBLE : NO_ERROR, LiarMaps::undo);
        changes("21: wipe()", NO_ERROR, LiarMaps::wipe);
    }

    private void slots() {
        boolean saved = !name.equals("new");
        for (int slot : new int[] {LOW, -1, 0, 1, 2, HIGH}) {
            boolean none = slot < 0 || slot > 1;
            changes("25: save(" + slot + ")", none ? BAD_VALUE : NO_ERROR, maps -> maps.save(slot));
            int wrong = none ? BAD_VALUE : saved && slot == 0 ? NO_ERROR : NOT_POSSIBLE;
            changes("26: restore(" + slot + ")", wrong, maps -> maps.restore(slot));
        }
    }

    private void characters() {
        for (long code : new long[] {Long.MIN_VALUE, -1, 0, 1, 32, 127, 128, 255, Long.MAX_VALUE, 'p' << 8, 'p' << 16 | 'p'}) {
            changes("20: put(" + code + ")", BAD_VALUE, maps -> maps.put(code));
        }
        for (long code : new long[] {33, 126, 'p' << 8 | 'p'}) {
            changes("20: put(" + code + ")", NO_ERROR, maps -> maps.put(code));
        }
    }
}
