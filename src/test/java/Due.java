/** Counts rows of a test: a call, what it answered, what is due; and writes texts on sheets. */
final class Due {
    private final String name;
    private int passed = 0;
    private int failed = 0;

    Due(String name) {
        this.name = name;
    }

    void is(String call, long got, long want) {
        if (got == want) {
            passed++;
            return;
        }
        failed++;
        System.out.println(name + ": " + call + " answered " + got + ", due is " + want);
    }

    /** Prints the closing line and ends with exit code 1 if a row failed. */
    void end() {
        System.out.println(name + ": " + passed + " passed, " + failed + " failed");
        if (failed != 0) {
            System.exit(1);
        }
    }

    /** A new object with the ridge that the text tells. */
    static SnowInns told(String text) {
        SnowInns x = new SnowInns();
        long guests = tell(x, text);
        if (guests < 1) {
            throw new IllegalStateException("the test's own text is not taken: " + text + ": " + guests);
        }
        return x;
    }

    /** What ridge answers to a text, written on sheet 3 as bytes. */
    static int tell(SnowInns x, String text) {
        x.sheet(3, 0, text.length());
        write(x, 3, 0, text);
        return x.ridge(3, 0, 0, text.length());
    }

    static void write(SnowInns x, int sheet, int from, String text) {
        for (int i = 0; i < text.length(); i++) {
            x.put(sheet, from + i, text.charAt(i));
        }
    }
}
