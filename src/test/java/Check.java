/** Counts and prints the calls whose answer is not the one that is due. */
final class Check {
    private static final int PRINTED = 20;
    private static int wrong = 0;

    private Check() { }

    static void due(String call, long got, long want) {
        if (got != want) {
            wrong++;
            if (wrong <= PRINTED) {
                System.out.println(call + " answered " + got + ", due is " + want);
            }
        }
    }

    static void due(String call, boolean got, boolean want) {
        due(call, got ? 1 : 0, want ? 1 : 0);
    }

    static void end() {
        System.out.println(wrong == 0 ? "all answers are as due" : wrong + " answers are not as due");
        if (wrong != 0) {
            System.exit(1);
        }
    }
}
