/** Counts and prints what is not as due; a test ends with end(). */
final class Checks {
    interface Call {
        Object answer();
    }

    private final String name;
    private String sentence = "";
    private int done = 0;
    private int wrong = 0;

    Checks(String name) {
        this.name = name;
    }

    /** Names the sentence of the document that the next checks stand for. */
    void about(String ofDocument) {
        sentence = "\"" + ofDocument + "\": ";
    }

    void same(String what, Object due, Object got) {
        done++;
        if (!due.equals(got)) {
            wrong++;
            System.out.println(name + ": " + sentence + what + ": due is " + due + ", got " + got);
        }
    }

    void index(String what, Call call) {
        same(what, "throws.IndexOutOfBoundsException", outcome(call));
    }

    void argument(String what, Call call) {
        same(what, "throws.IllegalArgumentException", outcome(call));
    }

    void state(String what, Call call) {
        same(what, "throws.IllegalStateException", outcome(call));
    }

    /** What a call answers; of one that throws, the exact class of the exception. */
    static Object outcome(Call call) {
        try {
            return call.answer();
        } catch (RuntimeException e) {
            return "throws." + e.getClass().getSimpleName();
        }
    }

    void end() {
        System.out.println(name + ": " + done + " checks, " + wrong + " wrong");
        if (wrong != 0 || done == 0) {
            System.exit(1);
        }
    }
}
