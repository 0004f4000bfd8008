/** Promises 20 to 23: texts. */
public final class TextsTest {
    private static final Due due = new Due();

    public static void main(String[] args) {
        putting();
        wrongCharacters();
        eachCodeAtEachPlace();
        bitsAboveTheEnd();
        aFullPad();
        justFull();
        wiping();
        faults();
        faultOfEachCharacter();
        carryingOut();
        eachOrder();
        eachPlaceOfOrders();
        eachDigitOfChecks();
        orderThatFails();
        eachErrorOfOrders();
        textsAndUndo();
        due.end("TextsTest");
    }

    private static void putting() {
        LiarMaps maps = new LiarMaps();
        due.is("20: put of 1", maps.put('b'), 1);
        due.is("20: put of 8", maps.put(Due.number(";+ab;-cd")), 9);
        due.is("20: put of 2", maps.put(Due.number(";p")), 11);
        due.is("20: count(12)", maps.count(12), 11);
        due.is("20: the last character is the lowest", maps.fault(), LiarMaps.NONE);
        due.is("20: it is no change", maps.count(13), 0);
        due.is("20: three orders and the one ahead", maps.carryOut(), 4);
    }

    private static void wrongCharacters() {
        LiarMaps maps = new LiarMaps();
        due.is("20: put(0)", maps.put(0), LiarMaps.BAD_VALUE);
        due.is("20: put(32)", maps.put(32), LiarMaps.BAD_VALUE);
        due.is("20: put(127)", maps.put(127), LiarMaps.BAD_VALUE);
        due.is("20: put(255)", maps.put(255), LiarMaps.BAD_VALUE);
        due.is("20: put(-1)", maps.put(-1), LiarMaps.BAD_VALUE);
        due.is("20: put(lowest long)", maps.put(Long.MIN_VALUE), LiarMaps.BAD_VALUE);
        due.is("20: put(highest long)", maps.put(Long.MAX_VALUE), LiarMaps.BAD_VALUE);
        due.is("20: no lowest character", maps.put((long) 'b' << 8), LiarMaps.BAD_VALUE);
        due.is("20: a gap", maps.put((long) 'b' << 16 | 'b'), LiarMaps.BAD_VALUE);
        due.is("20: a bit far above", maps.put(1L << 63 | 'b'), LiarMaps.BAD_VALUE);
        for (int at = 0; at < 8; at++) {
            for (int code : new int[] {1, 32, 127, 128, 255}) {
                long characters = Due.number("bbbbbbbb") & ~(255L << 8 * at) | (long) code << 8 * at;
                due.is("20: code " + code + " at " + at, maps.put(characters), LiarMaps.BAD_VALUE);
            }
        }
        due.is("20: the pad is empty yet", maps.count(12), 0);
        due.is("20: put(33)", maps.put(33), 1);
        due.is("20: put(126)", maps.put(126), 2);
        due.is("20: put of 8 tildes", maps.put(Due.number("~~~~~~~~")), 10);
    }

    private static void eachCodeAtEachPlace() {
        for (int length = 1; length <= 8; length++) {
            for (int at = 0; at < length; at++) {
                for (int code = 1; code < 256; code++) {
                    LiarMaps maps = new LiarMaps();
                    long characters = Due.number("bbbbbbbb") >>> 8 * (8 - length);
                    characters = characters & ~(255L << 8 * at) | (long) code << 8 * at;
                    boolean right = code >= 33 && code <= 126;
                    String call = "20: code " + code + " at " + at + " of " + length;
                    due.is(call, maps.put(characters), right ? length : LiarMaps.BAD_VALUE);
                    due.is(call + ", the pad", maps.count(12), right ? length : 0);
                }
            }
        }
    }

    /** 8 bits that are 0 end the characters, so that no bit above them may be 1. */
    private static void bitsAboveTheEnd() {
        for (int length = 0; length < 8; length++) {
            long characters = length == 0 ? 0 : Due.number("pppppppp") >>> 8 * (8 - length);
            for (int bit = 8 * length + 8; bit < 64; bit++) {
                LiarMaps maps = new LiarMaps();
                due.is("20: bit " + bit + " above " + length, maps.put(characters | 1L << bit), LiarMaps.BAD_VALUE);
                due.is("20: the pad", maps.wipe(), 0);
            }
        }
    }

    private static void aFullPad() {
        LiarMaps maps = new LiarMaps();
        for (int times = 1; times <= 9; times++) {
            due.is("20: put of 8", maps.put(Due.number("p;p;p;p;")), 8 * times);
        }
        due.is("20: 79", maps.put(Due.number("p;p;p;p")), 79);
        due.is("20: two for one", maps.put(Due.number(";p")), LiarMaps.TOO_MANY);
        due.is("20: eight for one", maps.put(Due.number(";p;p;p;p")), LiarMaps.TOO_MANY);
        due.is("20: a wrong one first", maps.put(Due.number(";p") << 8), LiarMaps.BAD_VALUE);
        due.is("20: 79 yet", maps.count(12), 79);
        due.is("22: no fault yet", maps.fault(), LiarMaps.NONE);
        due.is("20: 80", maps.put(';'), 80);
        due.is("20: 81", maps.put('p'), LiarMaps.TOO_MANY);
        due.is("22: it ends too early", maps.fault(), 80);
        due.is("23: it stays", maps.carryOut(), LiarMaps.BAD_TEXT);
        due.is("21: wipe()", maps.wipe(), 80);
        maps.begin();
        for (int times = 1; times <= 9; times++) {
            maps.put(Due.number("p;p;p;p;"));
        }
        maps.put(Due.number("p;p;p;dh"));
        due.is("22: a full one without a fault", maps.fault(), LiarMaps.NONE);
        due.is("23: 40 orders", maps.carryOut(), 40);
        due.is("23: the last one, too", maps.dug(0), 7);
    }

    /** From each length that a pad of whole puts can have to 80, and one beyond. */
    private static void justFull() {
        for (int length = 72; length <= 80; length++) {
            for (int more = 1; more <= 8; more++) {
                LiarMaps maps = new LiarMaps();
                for (int times = 0; times < 9; times++) {
                    maps.put(Due.number("p;p;p;p;"));
                }
                Due.type(maps, "p;p;p;p;".substring(0, length - 72));
                String call = "20: " + more + " more at " + length;
                boolean fits = length + more <= 80;
                int then = fits ? length + more : length;
                due.is(call, maps.put(Due.number("~~~~~~~~") >>> 8 * (8 - more)), fits ? then : LiarMaps.TOO_MANY);
                due.is(call + ", count(12)", maps.count(12), then);
                int whole = length % 2 == 1 ? LiarMaps.NONE : length;
                due.is(call + ", fault()", maps.fault(), fits ? length : whole);
                due.is(call + ", wipe()", maps.wipe(), then);
            }
        }
    }

    private static void wiping() {
        LiarMaps maps = new LiarMaps();
        due.is("21: wipe() of an empty pad", maps.wipe(), 0);
        maps.put(Due.number("b;p"));
        due.is("21: wipe()", maps.wipe(), 3);
        due.is("21: empty", maps.count(12), 0);
        due.is("21: wipe() again", maps.wipe(), 0);
        due.is("21: it is no change", maps.count(13), 0);
        due.is("20: put behind it", maps.put('b'), 1);
        due.is("22: nothing of before is left", maps.fault(), LiarMaps.NONE);
    }

    private static int faultOf(String text) {
        LiarMaps maps = new LiarMaps();
        Due.type(maps, text);
        int fault = maps.fault();
        due.is("22: the pad stays, " + text, maps.count(12), text.length());
        int begun = maps.carryOut();
        if (fault != LiarMaps.NONE) {
            due.is("23: carryOut() of " + text, begun, LiarMaps.BAD_TEXT);
            due.is("23: the pad stays, " + text, maps.wipe(), text.length());
            due.is("23: no change, " + text, maps.count(13), 0);
        } else {
            due.is("23: the pad is empty, " + text, maps.wipe(), 0);
            due.is("23: one change, " + text, maps.count(13), 1);
        }
        return fault;
    }

    private static void faults() {
        due.is("22: empty", new LiarMaps().fault(), 0);
        due.is("23: empty", new LiarMaps().carryOut(), LiarMaps.BAD_TEXT);
        String[] right = {"rab", "raa", "th", "b", "+ab", "-ha", "c0ab", "c9hh", "da", "p", "p;p", "rab;tc;b;+ab;-cd;c0ef;dg;p"};
        for (String text : right) {
            due.is("22: " + text, faultOf(text), LiarMaps.NONE);
        }
        String[] early = {"r", "ra", "t", "+", "+a", "-", "-h", "c", "c0", "c0a", "d", "p;", "rab;", "b;c1h"};
        for (String text : early) {
            due.is("22: " + text, faultOf(text), text.length());
        }
        String[] wrong = {"x", "P", ";", "a", "0", "ri", "r0", "ra0", "rab0", "rabc", "ti", "tab", "bb", "pp", "+ai",
            "ca", "c:ab", "c/ab", "c00a", "c0ai", "c0abc", "da;;", "p;;", "p;x", "p,p", "rA", "r`b", "*ab", ",ab", "c0a;"};
        int[] at = {0, 0, 0, 0, 0, 1, 1, 2, 3, 3, 1, 2, 1, 1, 2,
            1, 1, 1, 2, 3, 4, 3, 2, 2, 1, 1, 1, 0, 0, 3};
        for (int i = 0; i < wrong.length; i++) {
            due.is("22: " + wrong[i], faultOf(wrong[i]), at[i]);
        }
    }

    /** Each character that can be put, at each kind of place in an order. */
    private static void faultOfEachCharacter() {
        String[] ahead = {"", "p;", "c", "r", "ra", "t", "c1", "b", "rab"};
        String[] right = {"rtb+-cdp", "rtb+-cdp", "0123456789", "abcdefgh", "abcdefgh", "abcdefgh", "abcdefgh", ";", ";"};
        for (int i = 0; i < ahead.length; i++) {
            for (char sign = 33; sign <= 126; sign++) {
                LiarMaps maps = new LiarMaps();
                Due.type(maps, ahead[i] + sign + "~");
                boolean stands = right[i].indexOf(sign) >= 0;
                due.is("22: " + ahead[i] + sign, maps.fault(), ahead[i].length() + (stands ? 1 : 0));
            }
        }
    }

    private static void carryingOut() {
        LiarMaps maps = new LiarMaps();
        Due.type(maps, "rab;rbc;rcd;td;b;-ab;p;c0ab;dd");
        due.is("23: carryOut()", maps.carryOut(), 9);
        due.is("23: the pad is empty", maps.count(12), 0);
        due.is("23: one change", maps.count(13), 1);
        due.is("23: four turns", maps.count(0), 4);
        due.is("23: a lie was found", maps.player(0, 3), 1);
        due.is("23: 0 found the treasure", maps.count(3), 0);
        due.is("23: carryOut() again", maps.carryOut(), LiarMaps.BAD_TEXT);
        due.is("24: undo() of all orders", maps.undo(), 0);
        due.is("24: not begun", maps.count(2), 0);
        due.is("24: no roads", maps.save(0), 0);
        due.is("24: the pad stays empty", maps.count(12), 0);
    }

    private static void eachOrder() {
        LiarMaps maps = new LiarMaps();
        Due.type(maps, "rfc;rfc;rfc;th");
        due.is("23: ahead of the game", maps.carryOut(), 4);
        due.is("23: a road of c and f", maps.knows(maps.ofRoad(2, 5, 1), 2, 5), 1);
        due.is("23: one road", maps.save(0), 1);
        Due.type(maps, "ta;tg");
        due.is("23: a treasure at a does not end it", maps.carryOut(), 2);
        due.is("4: it was at g", maps.treasure(6), 6);
        Due.type(maps, "b");
        due.is("23: b", maps.carryOut(), 1);
        Due.type(maps, "+ad;-ae;+be;c1ae;c2be;da");
        due.is("23: turns", maps.carryOut(), 6);
        due.is("23: 0 says that 0-3 is there", maps.ofRoad(0, 3, 4), 1);
        due.is("23: 1 says that 0-4 is not", maps.ofRoad(0, 4, 5), 2);
        due.is("23: 2 says that 1-4 is there", maps.ofRoad(1, 4, 4), 4);
        due.is("23: 0 checked", maps.player(0, 4), 1);
        due.is("23: 1 was no liar", maps.player(1, 3), 0);
        due.is("23: 2 was one", maps.player(2, 3), 1);
        due.is("23: 2 dug", maps.player(2, 6), 1);
        due.is("23: at a", maps.dug(0), 0);
        Due.type(maps, "p;p");
        due.is("23: passes", maps.carryOut(), 2);
        due.is("23: the turn of 2", maps.count(1), 2);
    }

    /** Each place letter at each place of each order. */
    private static void eachPlaceOfOrders() {
        for (int a = 0; a < 8; a++) {
            String one = "" + (char) ('a' + a);
            LiarMaps maps = TurnsTest.ring();
            Due.type(maps, "d" + one);
            due.is("23: d" + one, maps.carryOut(), 1);
            due.is("14: dug at " + one, maps.dug(0), a);
            LiarMaps ahead = new LiarMaps();
            Due.type(ahead, "t" + one);
            due.is("23: t" + one, ahead.carryOut(), 1);
            due.is("4: the treasure is at " + one, ahead.treasure(0), a);
            for (int b = 0; b < 8; b++) {
                eachPairOfOrders(a, b, one + (char) ('a' + b));
            }
        }
    }

    private static void eachPairOfOrders(int a, int b, String ends) {
        int done = a == b ? 0 : 1;
        LiarMaps ahead = new LiarMaps();
        Due.type(ahead, "r" + ends);
        due.is("23: r" + ends, ahead.carryOut(), done);
        due.is("23: roads of r" + ends, ahead.save(0), done);
        LiarMaps maps = TurnsTest.ring();
        Due.type(maps, "+" + ends);
        due.is("23: +" + ends, maps.carryOut(), done);
        Due.type(maps, "-" + ends);
        due.is("23: -" + ends, maps.carryOut(), done);
        due.is("23: claims", maps.player(0, 1) + 10 * maps.player(1, 1), 11 * done);
        Due.type(maps, "c0" + ends);
        due.is("23: c0" + ends, maps.carryOut(), done);
        if (a != b) {
            due.is("3: laid by r" + ends, ahead.knows(ahead.ofRoad(a, b, 1), a, b), 1);
            due.is("6: claimed by +" + ends, maps.ofRoad(a, b, 4), 1);
            due.is("6: claimed by -" + ends, maps.ofRoad(a, b, 5), 2);
            due.is("7: revealed by c0" + ends, maps.ofRoad(a, b, 2), 1);
        }
    }

    private static void eachDigitOfChecks() {
        for (int turn = 0; turn < 3; turn++) {
            for (int digit = 0; digit < 10; digit++) {
                LiarMaps maps = TurnsTest.ring();
                for (int player = 0; player < 3; player++) {
                    maps.claim(0, 2, player == 1 ? 0 : 1);
                }
                Due.passTurns(maps, turn);
                String text = "c" + digit + "ac";
                Due.type(maps, text + ";p");
                boolean right = digit < 3 && digit != turn;
                due.is("23: " + text + " in the turn of " + turn, maps.carryOut(), right ? 2 : 0);
                due.is("7: checks of " + turn, maps.player(turn, 4), right ? 1 : 0);
                due.is("7: that found a lie", maps.player(turn, 5), right && digit != 1 ? 1 : 0);
                due.is("23: turns", maps.count(0), 3 + turn + (right ? 2 : 0));
            }
        }
    }

    /** Each error that an order can return, behind one that returns none and ahead of another. */
    private static void eachErrorOfOrders() {
        String[] ahead = {"raa", "+ab", "-ab", "+cc", "c1ab", "c0ab", "c3ab", "da", "p"};
        for (String order : ahead) {
            LiarMaps maps = new LiarMaps();
            Due.type(maps, "rab;" + order + ";rcd");
            due.is("23: rab ahead of " + order, maps.carryOut(), 1);
            due.is("23: no order behind " + order, maps.save(0), 1);
            due.is("23: not begun by " + order, maps.count(2), 0);
        }
        // The turn of 0: 1 claims a-c, 2 claims b-d, which is revealed, and too few coins are there to dig.
        String[] begun = {"rab", "raa", "ta", "b", "+aa", "-hh", "c0ac", "c1aa", "c1ab", "c2ac", "c2bd", "c9ac", "da"};
        for (String order : begun) {
            LiarMaps maps = TurnsTest.ring();
            maps.set(LiarMaps.DIG, 50);
            Due.type(maps, "p;+ac;-bd;c2bd;p;p;" + order + ";p");
            due.is("23: six orders ahead of " + order, maps.carryOut(), 6);
            due.is("23: no order behind " + order, maps.count(0), 6);
        }
    }

    private static void orderThatFails() {
        String[] texts = {"p;rab;p", "raa;rab", "rab;tc;b;b;p", "b;p;taa", "b;c3ab;p", "b;c0ab;p", "b;p;c0ab;p", "b;+aa;p",
            "b;da;p", "rab;rbc;b;dc;da;p;tb"};
        int[] orders = {0, 0, 3, LiarMaps.BAD_TEXT, 1, 1, 2, 1, 2, 5};
        for (int i = 0; i < texts.length; i++) {
            LiarMaps maps = new LiarMaps();
            Due.type(maps, texts[i]);
            due.is("23: carryOut() of " + texts[i], maps.carryOut(), orders[i]);
            boolean fault = orders[i] < 0;
            due.is("23: changes of " + texts[i], maps.count(13), fault ? 0 : 1);
            due.is("23: the pad of " + texts[i], maps.count(12), fault ? texts[i].length() : 0);
        }
        LiarMaps maps = new LiarMaps();
        Due.type(maps, "rab;tc;p;rcd");
        due.is("23: the orders ahead are carried out", maps.carryOut(), 2);
        due.is("23: the road", maps.save(0), 1);
        due.is("23: the treasure", maps.treasure(2), 2);
        Due.type(maps, "p");
        due.is("23: none is carried out", maps.carryOut(), 0);
        due.is("23: a change all the same", maps.count(13), 3);
    }

    private static void textsAndUndo() {
        LiarMaps maps = new LiarMaps();
        maps.road(0, 1);
        Due.type(maps, "rbc;rcd;rde;ref;rfg;rgh;rac;rad");
        due.is("23: eight orders", maps.carryOut(), 8);
        due.is("24: two changes", maps.count(13), 2);
        Due.type(maps, "xyz");
        due.is("24: undo()", maps.undo(), 1);
        due.is("24: the road of before", maps.save(0), 1);
        due.is("24: the pad is not undone", maps.count(12), 3);
        due.is("24: undo()", maps.undo(), 0);
        due.is("24: no road", maps.save(0), 0);
        due.is("24: undo() of none", maps.undo(), LiarMaps.NOT_POSSIBLE);
    }
}
