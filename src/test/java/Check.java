/** Counts the answers that are not as due; a test ends with exit code 1 if there was one. */
final class Check {
    private static int made = 0;
    private static int wrong = 0;

    private Check() { }

    static void due(String call, long got, long want) {
        made++;
        if (got != want) {
            wrong++;
            if (wrong <= 50) {
                System.out.println(call + " answered " + got + ", due is " + want);
            }
        }
    }

    static void holds(String rule, boolean so) {
        due(rule, so ? 1 : 0, 1);
    }

    static void end() {
        System.out.println(made + " answers, " + wrong + " not as due");
        if (wrong != 0) {
            System.exit(1);
        }
    }
}
