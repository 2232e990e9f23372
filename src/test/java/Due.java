import java.util.NoSuchElementException;

/** What the tests share: a call's answer as text, and the count of those that are not as due. */
final class Due {
    interface Call {
        Object run();
    }

    private static int rows = 0;
    private static int wrong = 0;
    private static int sentences = 0;
    private static int rowsBefore = 0;
    private static String held = "";

    private Due() {
    }

    /** What the answers from here on are held against: the promise's number and the document's own words. */
    static void sentence(int promise, String words) {
        closeSentence();
        sentences++;
        rowsBefore = rows;
        held = "promise " + promise + ", \"" + words + "\": ";
    }

    private static void closeSentence() {
        if (sentences > 0 && rows == rowsBefore) {
            same("a sentence without a test", "rows", "none");
        }
    }

    /** The answer, or the exception's exact class: one of a subclass is not the one the document names. */
    static String answer(Call call) {
        try {
            return String.valueOf(call.run());
        } catch (RuntimeException e) {
            if (e.getClass() == NoSuchElementException.class) {
                return "NSE";
            }
            return e.getClass() == IllegalArgumentException.class ? "IAE" : e.toString();
        }
    }

    static void is(String what, Object due, Call call) {
        same(what, String.valueOf(due), answer(call));
    }

    static void noSuch(String what, Call call) {
        same(what, "NSE", answer(call));
    }

    static void illegal(String what, Call call) {
        same(what, "IAE", answer(call));
    }

    static void same(String what, String due, String got) {
        rows++;
        if (!due.equals(got)) {
            wrong++;
            System.out.println(held + what + " answered " + got + ", due is " + due);
        }
    }

    static void end(String name) {
        closeSentence();
        String told = sentences == 0 ? "" : sentences + " sentences, ";
        System.out.println(name + ": " + told + rows + " answers, " + wrong + " not as due");
        if (wrong != 0) {
            System.exit(1);
        }
    }
}
