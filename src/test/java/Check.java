/** What the tests share: answers are compared, wrong ones are told and counted, tapes are filled. */
final class Check {
    static final long RAM = 0x80000000L;

    private int wrong;
    private int done;
    private String topic = "";

    void about(String text) {
        topic = text;
    }

    void due(String call, long got, long want) {
        done++;
        if (got != want) {
            wrong++;
            System.out.println(topic + ": " + call + " answered " + got + ", due is " + want);
        }
    }

    void due(String call, String got, String want) {
        done++;
        if (!got.equals(want)) {
            wrong++;
            System.out.println(topic + ": " + call + " answered '" + got + "', due is '" + want + "'");
        }
    }

    /** The call must throw IllegalArgumentException. */
    void dueRefusal(String call, Runnable body) {
        done++;
        try {
            body.run();
        } catch (IllegalArgumentException e) {
            return;
        }
        wrong++;
        System.out.println(topic + ": " + call + " threw nothing, due is IllegalArgumentException");
    }

    void end() {
        System.out.println(done + " answers, " + wrong + " not as due");
        if (wrong != 0) {
            System.exit(1);
        }
    }

    /** Puts a text on the tape, eight signs a call. */
    static void type(RiscMonitor x, String text) {
        for (int i = 0; i < text.length(); i += 8) {
            long c = 0;
            for (int k = 0; k < 8; k++) {
                c = c << 8 | (i + k < text.length() ? text.charAt(i + k) : 0);
            }
            x.sign(c);
        }
    }

    /** Assembles lines to a place; what assemble() answers. */
    static int make(RiscMonitor x, int m, long at, String... lines) {
        type(x, String.join("\n", lines));
        return x.assemble(m, at);
    }

    /** A new house whose computer 0 has a program at RAM's beginning. */
    static RiscMonitor house(int harts, int pages, String... lines) {
        RiscMonitor x = new RiscMonitor();
        x.computer(harts, pages);
        int made = make(x, 0, RAM, lines);
        if (made < 0) {
            throw new IllegalStateException("the test's program has a fault at " + (-1 - made));
        }
        return x;
    }

    /** A new house of one hart and four pages that has run a program for so many steps. */
    static RiscMonitor ran(int steps, String... lines) {
        RiscMonitor x = house(1, 4, lines);
        x.run(0, steps);
        return x;
    }

    /** What is listed of the instruction at a place. */
    static String listed(RiscMonitor x, int m, long at) {
        StringBuilder text = new StringBuilder();
        for (int i = 0; i < 100; i++) {
            int sign = x.list(m, at, i);
            if (sign < 0) {
                break;
            }
            text.append((char) sign);
        }
        return text.toString();
    }

    /** What is seen of a house: counts, computers' states, harts, books and traces, and pages that differ from pictures. */
    static String sight(RiscMonitor x) {
        StringBuilder text = new StringBuilder();
        for (int what = 0; what < 5; what++) {
            text.append(x.count(what)).append(' ');
        }
        for (int m = 0; m < 4; m++) {
            text.append("\n").append(m).append(':');
            for (int what = 0; what < 9; what++) {
                text.append(' ').append(x.state(m, what));
            }
            for (int h = 0; h < x.state(m, 2); h++) {
                for (int what = 0; what < 5; what++) {
                    text.append(' ').append(x.hart(m, h, what));
                }
            }
            for (int what = 0; what < 4; what++) {
                text.append(' ').append(x.block(m, what)).append(' ').append(x.trace(m, 0, what));
            }
            text.append(' ').append(x.changed(m, 0)).append(' ').append(x.serial(m, 0)).append(' ').append(x.sector(m, 0, 0));
        }
        return text.toString();
    }

    /** Eight bytes of RAM, the lowest first. */
    static long dword(RiscMonitor x, int m, long at) {
        long sum = 0;
        for (int i = 7; i >= 0; i--) {
            sum = sum << 8 | x.cell(m, at + i);
        }
        return sum;
    }
}
