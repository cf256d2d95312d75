/** What the tests share: answers are compared, faults are told and counted, tapes are filled. */
final class Check {
    private int wrong;
    private int done;
    private String topic = "";

    void about(String text) {
        topic = text;
    }

    void due(String call, long got, long want) {
        done++;
        if (got != want) {
            wrong++;
            System.out.println(topic + ": " + call + " answered " + got + ", due is " + want);
        }
    }

    /** The call must throw IllegalArgumentException. */
    void dueRefusal(String call, Runnable body) {
        done++;
        try {
            body.run();
        } catch (IllegalArgumentException e) {
            return;
        }
        wrong++;
        System.out.println(topic + ": " + call + " threw nothing, due is IllegalArgumentException");
    }

    void end() {
        System.out.println(done + " answers, " + wrong + " not as due");
        if (wrong != 0) {
            System.exit(1);
        }
    }

    /** Puts a text on the tape, eight signs a call. */
    static void type(RiscMonitor x, String text) {
        for (int i = 0; i < text.length(); i += 8) {
            long c = 0;
            for (int k = 0; k < 8; k++) {
                c = c << 8 | (i + k < text.length() ? text.charAt(i + k) : 0);
            }
            x.sign(c);
        }
    }

    /** Assembles a text to a place; what assemble() answers. */
    static int make(RiscMonitor x, int m, long at, String text) {
        type(x, text);
        return x.assemble(m, at);
    }

    /** What is listed of the instruction at a place. */
    static String listed(RiscMonitor x, int m, long at) {
        StringBuilder text = new StringBuilder();
        for (int i = 0; x.list(m, at, i) >= 0 && i < 100; i++) {
            text.append((char) x.list(m, at, i));
        }
        return text.toString();
    }
}
