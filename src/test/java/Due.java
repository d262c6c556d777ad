/** Keeps what the tests of one class found wrong. */
final class Due {
    private static int calls = 0;
    private static int wrong = 0;

    private Due() {
    }

    static void due(String call, long got, long want) {
        calls++;
        if (got != want) {
            wrong++;
            System.out.println(call + " answered " + got + ", due is " + want);
        }
    }

    /** Ends the test: with exit code 1, if an answer was not the one that is due. */
    static void end() {
        System.out.println(calls + " calls, " + wrong + " wrong");
        if (wrong != 0 || calls == 0) {
            System.exit(1);
        }
    }

    /** Types a text on the tape, eight bytes a call; the answer is that of the last call. */
    static int typed(TenForOne x, String text) {
        int answer = 0;
        for (int from = 0; from < text.length(); from += 8) {
            String part = text.substring(from, Math.min(text.length(), from + 8));
            long w = 0;
            for (char sign : part.toCharArray()) {
                w = w << 8 | sign;
            }
            answer = x.type(w, part.length());
        }
        return answer;
    }

    static int lawsOf(TenForOne x, String text) {
        typed(x, text);
        return x.laws();
    }
}
