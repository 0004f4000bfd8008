/** Counts and prints the calls whose answer is not the one that is due. */
final class Due {
    private int wrong = 0;
    private int asked = 0;

    void is(String call, long got, long want) {
        asked++;
        if (got != want) {
            wrong++;
            System.out.println(call + " answered " + got + ", due is " + want);
        }
    }

    void end(String test) {
        System.out.println(test + ": " + asked + " answers, " + wrong + " not as due");
        if (wrong != 0 || asked == 0) {
            System.exit(1);
        }
    }

    /** Puts a text of any length to the pad, up to eight characters a call; returns the last answer. */
    static int type(LiarMaps maps, String text) {
        int answer = 0;
        for (int from = 0; from < text.length(); from += 8) {
            answer = maps.put(number(text.substring(from, Math.min(from + 8, text.length()))));
        }
        return answer;
    }

    static long number(String characters) {
        long number = 0;
        for (int i = 0; i < characters.length(); i++) {
            number = number << 8 | characters.charAt(i);
        }
        return number;
    }

    static void passTurns(LiarMaps maps, int turns) {
        for (int turn = 0; turn < turns; turn++) {
            maps.pass();
        }
    }
}
