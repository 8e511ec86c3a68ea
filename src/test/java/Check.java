/** Prints every answer that is not the one that is due, and ends with exit code 1 if there was one. */
final class Check {
    interface Call {
        long answer();
    }

    private final String name;
    private String sentence = "";
    private int looked;
    private int lookedBefore;
    private int wrong;

    Check(String name) {
        this.name = name;
    }

    /** What is looked at from here on is asked for by this sentence of the document. */
    void sentence(String words) {
        endSentence();
        sentence = words;
    }

    private void endSentence() {
        if (!sentence.isEmpty() && looked == lookedBefore) {
            say("nothing was looked at");
        }
        lookedBefore = looked;
        sentence = "";
    }

    void is(String what, long due, long got) {
        looked++;
        if (due != got) {
            say(what + " answered " + got + ", due is " + due);
        }
    }

    void same(String what, String due, String got) {
        looked++;
        if (!due.equals(got)) {
            say(what + "\n  is  " + got + "\n  due " + due);
        }
    }

    void yes(String what, boolean got) {
        is(what, 1, got ? 1 : 0);
    }

    void no(String what, boolean got) {
        is(what, 0, got ? 1 : 0);
    }

    void illegal(String what, Call call) {
        fails(what, IllegalArgumentException.class, call);
    }

    void tooMany(String what, Call call) {
        fails(what, IllegalStateException.class, call);
    }

    void outside(String what, Call call) {
        fails(what, IndexOutOfBoundsException.class, call);
    }

    /** The very class is due: what the machine throws is often a class below the one promised. */
    private void fails(String what, Class<? extends RuntimeException> due, Call call) {
        looked++;
        try {
            say(what + " answered " + call.answer() + ", due is " + due.getSimpleName());
        } catch (RuntimeException e) {
            if (e.getClass() != due) {
                say(what + " threw " + e + ", due is " + due.getSimpleName());
            }
        }
    }

    void say(String what) {
        wrong++;
        System.out.println(name + ": " + (sentence.isEmpty() ? "" : "\"" + sentence + "\": ") + what);
    }

    void end() {
        endSentence();
        System.out.println(name + ": " + looked + " answers looked at, " + wrong + " not as due");
        if (wrong != 0 || looked == 0) {
            System.exit(1);
        }
    }
}
