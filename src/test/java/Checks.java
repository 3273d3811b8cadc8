/** Counts the checks of one test class, prints those that fail, and ends the program. */
final class Checks {
    private int made = 0;
    private int wrong = 0;
    private String sentence = "";

    /** Says which sentence of the document the checks from here on are about. */
    void about(String sentence) {
        this.sentence = sentence.isEmpty() ? "" : " [" + sentence + "]";
    }

    /** Checks an answer; a boolean counts 1 or 0. */
    void due(String what, long want, long got) {
        made++;
        if (want != got) {
            wrong++;
            System.out.println(what + " answered " + got + ", due is " + want + sentence);
        }
    }

    void due(String what, boolean want, boolean got) {
        due(what, want ? 1 : 0, got ? 1 : 0);
    }

    /** Checks that a call throws an exception of exactly this class. */
    void fails(String what, Class<? extends RuntimeException> want, Runnable call) {
        made++;
        String got = "nothing";
        try {
            call.run();
        } catch (RuntimeException e) {
            if (e.getClass() == want) {
                return;
            }
            got = e.getClass().getSimpleName();
        }
        wrong++;
        System.out.println(what + " threw " + got + ", due is " + want.getSimpleName() + sentence);
    }

    /** Checks the fault position of a text, -1 for none, and that read answers or throws by it. */
    void fault(int want, String text) {
        LoopFuser fuser = new LoopFuser();
        type(fuser, text);
        if (want < 0) {
            int loops = text.split("for", -1).length - 1;
            due("read of " + text, loops, fuser.read());
            due("loops of " + text, loops, fuser.loopCount());
        } else {
            fails("read of " + text, IllegalArgumentException.class, fuser::read);
            due("loops of " + text, 0, fuser.loopCount());
        }
        due("fault position of " + text, want, fuser.faultPosition());
        due("characters after read of " + text, 0, fuser.append(0));
    }

    /** Ends the program, with exit code 1 if a check failed. */
    void finish() {
        System.out.println(made + " checks, " + wrong + " of them wrong");
        if (wrong != 0 || made == 0) {
            System.exit(1);
        }
    }

    /** Up to four characters in an int, as append takes them. */
    static int packed(String signs) {
        int result = 0;
        for (char sign : signs.toCharArray()) {
            result = result << 8 | sign;
        }
        return result;
    }

    static void type(LoopFuser fuser, String text) {
        for (int at = 0; at < text.length(); at += 4) {
            fuser.append(packed(text.substring(at, Math.min(at + 4, text.length()))));
        }
    }

    static void add(LoopFuser fuser, String text) {
        type(fuser, text);
        fuser.read();
    }

    /** A new object that has read these texts. */
    static LoopFuser with(String... texts) {
        LoopFuser fuser = new LoopFuser();
        for (String text : texts) {
            add(fuser, text);
        }
        return fuser;
    }
}
