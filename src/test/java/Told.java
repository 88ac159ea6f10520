/** An object and a run of calls on it, each with the answer that is due. */
final class Told {
    private final String of;
    final SnowInns x = new SnowInns();

    private Told(String of) {
        this.of = of;
    }

    /** A new object. */
    static Told nothing() {
        return new Told("");
    }

    /** A new object with the ridge of a text; what has been used of the sheets is nothing again. */
    static Told of(String text) {
        Told told = new Told(text + ": ");
        Cases.is("ridge of " + text, told.ridge(text) > 0 ? 1 : 0, 1);
        return told;
    }

    /** What ridge answers to a text, written as bytes on sheet 3, which has nothing then. */
    int ridge(String text) {
        int answer = Due.tell(x, text);
        x.lose(3);
        return answer;
    }

    Told is(String call, long want) {
        Cases.is(of + call, new Call(call).on(x), want);
        return this;
    }

    /** Calls of which only what they change is looked at. */
    Told go(String... calls) {
        for (String call : calls) {
            new Call(call).on(x);
        }
        return this;
    }

    /** The same call for 0, 1, .. in place of its #, with what is due for each. */
    Told row(String call, long... wants) {
        for (int i = 0; i < wants.length; i++) {
            is(call.replace("#", String.valueOf(i)), wants[i]);
        }
        return this;
    }
}
