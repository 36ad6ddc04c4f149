/** Counts the answers of a test and prints those that are not the ones that are due. */
final class Due {
    private int asked;
    private int wrong;

    void is(String call, long got, long want) {
        asked++;
        if (got != want) {
            wrong++;
            System.out.println(call + " answered " + got + ", due is " + want);
        }
    }

    void isTrue(String what, boolean so) {
        is(what, so ? 1 : 0, 1);
    }

    /** Ends the test, with exit code 1 if an answer was wrong or nothing was asked. */
    void end() {
        System.out.println(asked + " answers, " + wrong + " of them not as due");
        if (wrong > 0 || asked == 0) {
            System.exit(1);
        }
    }

    static void write(DewLooms looms, String text) {
        for (int i = 0; i < text.length(); i++) {
            looms.write(text.charAt(i));
        }
    }

    /** A new object with a text laid; THE TEXT is empty then. */
    static DewLooms laid(String text) {
        DewLooms looms = new DewLooms();
        write(looms, text);
        if (looms.lay() < 1) {
            throw new IllegalStateException("this text is not laid: " + text);
        }
        looms.wipe();
        return looms;
    }

    /** Everything that the calls which change nothing tell of the state, in one line. */
    static String shown(DewLooms looms) {
        StringBuilder line = new StringBuilder();
        for (int what = 0; what <= 10; what++) {
            line.append(looms.count(what)).append(' ');
        }
        int many = looms.count(0);
        for (int l = 0; l < many; l++) {
            line.append('/');
            for (int what = 0; what <= 5; what++) {
                line.append(looms.loom(l, what)).append(' ');
            }
        }
        return line.toString();
    }

    /** Whether the call that is made between two such lines changed nothing. */
    void same(String call, String before, DewLooms looms) {
        String behind = shown(looms);
        isTrue(call + " changes nothing (" + before + " became " + behind + ")",
            before.equals(behind));
    }
}
