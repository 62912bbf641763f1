/** Counts what is not as due; a test ends by end(). */
final class Check {
    interface Call {
        Object answer();
    }

    private static int wrong = 0;
    private static int checked = 0;

    private Check() {
    }

    static void same(String what, Object due, Call call) {
        same(what, null, due, call);
    }

    /** The run is every call so far; it is told once, for the first answer that is not as due. */
    static void same(String what, CharSequence run, Object due, Call call) {
        checked++;
        Object got;
        try {
            got = call.answer();
        } catch (RuntimeException thrown) {
            got = "throws " + thrown.getClass().getName();
        }
        if (!due.equals(got)) {
            wrong++;
            if (run != null && wrong == 1) {
                System.out.println("behind" + run + ":");
            }
            System.out.println(what + " answered " + got + ", due is " + due);
        }
    }

    /** The very class is asked for: the machine's own exceptions are often subclasses of it. */
    static void refused(String what, Class<? extends RuntimeException> due, HoundlightProofs proofs, Call call) {
        long before = proofs.digest();
        same(what, "throws " + due.getName(), call);
        same(what + ", digest behind it", before, proofs::digest);
    }

    static void end(String test) {
        System.out.println(test + ": " + checked + " checked, " + wrong + " not as due");
        System.exit(wrong == 0 && checked > 0 ? 0 : 1);
    }
}
