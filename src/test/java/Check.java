/** Compares answers with those that are due, and ends with exit code 1 if one was not. */
final class Check {
    private int calls = 0;
    private int wrong = 0;

    void due(String call, long got, long want) {
        calls++;
        if (got != want) {
            wrong++;
            System.out.println(call + " answered " + got + ", due is " + want);
        }
    }

    void isTrue(String what, boolean holds) {
        due(what, holds ? 1 : 0, 1);
    }

    void end() {
        System.out.println(calls + " answers, " + wrong + " not as due");
        if (wrong != 0) {
            System.exit(1);
        }
    }

    /** Puts a whole text on the pad, in place of what was there. */
    static void write(NextLife x, String text) {
        x.wipe();
        for (int i = 0; i < text.length(); i++) {
            x.say(text.charAt(i));
        }
    }

    /** Writes and does a text that can be. */
    static int act(NextLife x, String text) {
        write(x, text);
        return x.done();
    }

    /** What calls that change nothing tell of an object; 112 calls, as an object has but 512. */
    static String snapshot(NextLife x) {
        StringBuilder all = new StringBuilder();
        for (int what = 0; what <= 3; what++) {
            all.append(x.told(what)).append(' ').append(x.then(what)).append(' ');
        }
        for (int what = 0; what <= 2; what++) {
            for (int box = 0; box < 6; box++) {
                all.append(x.told(10 * (1 + box) + what)).append(' ');
            }
            for (int soul = 0; soul < 8; soul++) {
                all.append(x.told(100 * (1 + soul) + what)).append(' ');
            }
        }
        for (int soul = 0; soul < 8; soul++) {
            for (int other = 0; other < 8; other++) {
                all.append(soul == other ? 0 : x.owes(soul, other)).append(' ');
            }
        }
        all.append("laws ").append(x.laws(-1)).append(' ').append(x.laws(0)).append(' ').append(x.laws(5));
        all.append(" fault ").append(x.fault()).append(' ').append(x.judge(0)).append(' ').append(x.judge(1));
        return all.toString();
    }
}
