/** Compares answers with the ones that are due, and tells the lines where they differ. */
final class Due {
    private static int compared;
    private static int wrong;
    private static String sentence = "";

    private Due() {
    }

    /** The sentence of the document that what follows stands for: it is told with what differs. */
    static void says(String words) {
        sentence = words;
    }

    static void is(long got, long want) {
        compared++;
        if (got != want) tellWrong("answered " + got + ", due is " + want);
    }

    /** A call that answers 1 and tells the rest by asked(). */
    static void told(SeaCells x, int answer, long want) {
        compared++;
        if (answer == 1 && x.asked() == want) return;
        tellWrong("answered " + answer + " and told " + x.asked() + ", due is 1 and " + want);
    }

    /** What a call tells by asked(), which has to answer 1. */
    static long tell(SeaCells x, int answer) {
        compared++;
        if (answer == 1) return x.asked();
        tellWrong("answered " + answer + ", due is 1");
        return 0;
    }

    /** A call that answers FINDING, finding() being this one and one more of it having been counted. */
    static void finds(SeaCells x, java.util.function.IntSupplier call, int finding) {
        int before = x.findings(finding);
        int answer = call.getAsInt();
        compared++;
        if (answer == SeaCells.FINDING && x.finding() == finding && x.findings(finding) == before + 1) return;
        tellWrong("answered " + answer + " with finding " + x.finding() + ", due is -3 with finding " + finding);
    }

    /** A call that is refused and changes nothing but, for FINDING, what is found. */
    static void refused(SeaCells x, java.util.function.IntSupplier call, int want) {
        long digest = x.digest();
        int asked = x.asked();
        int finding = x.finding();
        int answer = call.getAsInt();
        compared++;
        boolean same = x.digest() == digest && x.asked() == asked;
        if (answer == want && same && (want == SeaCells.FINDING || x.finding() == finding)) return;
        tellWrong("answered " + answer + ", due is " + want + (same ? "" : ", and it changed something"));
    }

    /** Writes a TEXT, so long as it is and no longer. */
    static void write(SeaCells x, int t, String text) {
        x.text(t, text.length());
        for (int i = 0; i < text.length(); i++) x.put(t, i, text.charAt(i));
    }

    /** Lays a ROW with these places. */
    static void rowOf(SeaCells x, int r, int... places) {
        x.row(r, places.length);
        for (int i = 0; i < places.length; i++) x.lay(r, i, places[i]);
    }

    static void end() {
        System.out.println(wrong == 0 ? compared + " answers are as due" : wrong + " answers are not as due");
        if (wrong != 0 || compared == 0) System.exit(1);
    }

    private static void tellWrong(String what) {
        wrong++;
        StackTraceElement[] at = new Throwable().getStackTrace();
        StringBuilder lines = new StringBuilder(at[2].getFileName());
        // from the line that compares to the one in main
        for (int i = 2; i < at.length; i++) lines.append(':').append(at[i].getLineNumber());
        System.out.println(lines + " " + what);
        if (!sentence.isEmpty()) System.out.println("    where the document says: " + sentence);
    }
}
