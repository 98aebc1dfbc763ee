/** Counts the answers that are not the ones due, and ends the test by them. */
final class Check {
    private static int wrong = 0;
    private static String part = "";

    private Check() {
    }

    static void begin(String name) {
        part = name;
    }

    static void due(String call, long got, long want) {
        if (got != want) {
            wrong++;
            System.out.println(part + ": " + call + " answered " + got + ", due is " + want);
        }
    }

    static void due(String call, boolean got, boolean want) {
        due(call, got ? 1 : 0, want ? 1 : 0);
    }

    static void due(String what, String got, String want) {
        if (!got.equals(want)) {
            wrong++;
            System.out.println(part + ": " + what + " is\n" + got + "\n, due is\n" + want);
        }
    }

    static boolean allRight() {
        return wrong == 0;
    }

    static void end() {
        if (wrong != 0) {
            System.out.println(wrong + " answers are not as due");
            System.exit(1);
        }
    }
}
