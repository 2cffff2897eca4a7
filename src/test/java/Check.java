/** Counts the answers of one test that are not as due. */
final class Check {
    /** A call of the face; a boolean answer counts 1 or 0. */
    interface Call {
        long answer();
    }

    private String sentence = "";
    private int wrong = 0;

    /** The words of the document that the next answers are due by. */
    void about(String words) {
        sentence = words;
    }

    void same(String call, long want, long got) {
        if (got != want) {
            report(call + " answered " + got + ", due is " + want);
        }
    }

    void yes(String call, boolean got) {
        same(call, 1, got ? 1 : 0);
    }

    void no(String call, boolean got) {
        same(call, 0, got ? 1 : 0);
    }

    void throwsIndex(String call, Call code) {
        thrown(call, IndexOutOfBoundsException.class, code);
    }

    void throwsArgument(String call, Call code) {
        thrown(call, IllegalArgumentException.class, code);
    }

    void report(String text) {
        wrong++;
        System.out.println(sentence.isEmpty() ? text : "[" + sentence + "] " + text);
    }

    void end() {
        if (wrong != 0) {
            System.out.println(wrong + " answers are not as due");
            System.exit(1);
        }
    }

    static long number(boolean answer) {
        return answer ? 1 : 0;
    }

    // The very class: what the machine throws is a subclass and must not pass.
    private void thrown(String call, Class<?> want, Call code) {
        try {
            report(call + " answered " + code.answer() + ", due is " + want.getSimpleName());
        } catch (RuntimeException e) {
            if (e.getClass() != want) {
                report(call + " threw " + e + ", due is " + want.getSimpleName());
            }
        }
    }
}
