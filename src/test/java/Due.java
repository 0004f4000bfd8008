/** Counts and prints the calls whose answer is not the one that is due. */
final class Due {
    private int wrong = 0;
    private int asked = 0;

    void is(String call, long got, long want) {
        asked++;
        if (got != want) {
            wrong++;
            System.out.println(call + " answered " + got + ", due is " + want);
        }
    }

    /** Compares rows of answers, and tells the first one that differs. */
    void same(String call, String got, String want) {
        asked++;
        if (!got.equals(want)) {
            wrong++;
            String[] gotRows = got.split("\n");
            String[] wantRows = want.split("\n");
            int row = 0;
            while (row < gotRows.length - 1 && row < wantRows.length - 1 && gotRows[row].equals(wantRows[row])) {
                row++;
            }
            System.out.println(call + ": " + gotRows[row] + ", due is " + wantRows[row]);
        }
    }

    void end(String test) {
        System.out.println(test + ": " + asked + " answers, " + wrong + " not as due");
        if (wrong != 0 || asked == 0) {
            System.exit(1);
        }
    }

    /** Puts a text of any length to the pad, up to eight characters a call; returns the last answer. */
    static int type(LiarMaps maps, String text) {
        int answer = 0;
        for (int from = 0; from < text.length(); from += 8) {
            answer = maps.put(number(text.substring(from, Math.min(from + 8, text.length()))));
        }
        return answer;
    }

    static long number(String characters) {
        long number = 0;
        for (int i = 0; i < characters.length(); i++) {
            number = number << 8 | characters.charAt(i);
        }
        return number;
    }

    static void passTurns(LiarMaps maps, int turns) {
        for (int turn = 0; turn < turns; turn++) {
            maps.pass();
        }
    }

    /** Reveals a road by a claim that it is there and a check of it, which take two turns. */
    static int reveal(LiarMaps maps, int place, int other) {
        int claimant = maps.count(1);
        maps.claim(place, other, 1);
        return maps.check(claimant, place, other);
    }
}
