/** Holds answers against those that are due, under the sentence of the document that is at test. */
final class Due {
    private static String sentence = "";
    private static int tests = 0;
    private static int wrong = 0;

    private Due() {
    }

    /** Each test begins with this: what goes wrong after it is told together with the sentence. */
    static void sentence(String words) {
        sentence = words;
        tests++;
    }

    static void due(String call, long got, long want) {
        if (got != want) {
            tellWrong(call + " answered " + got + ", due is " + want);
        }
    }

    static void dueOther(String call, long got, long not) {
        if (got == not) {
            tellWrong(call + " answered " + got + ", due is another");
        }
    }

    static void tellWrong(String what) {
        wrong++;
        System.out.println("[" + sentence + "] " + what);
    }

    static void end() {
        System.out.println(wrong == 0 ? tests + " sentences hold" : wrong + " answers are not as due");
        if (wrong != 0) {
            System.exit(1);
        }
    }
}
