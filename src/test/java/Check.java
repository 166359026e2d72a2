/** Counts the answers that are not as due, prints them with the test they belong to, and ends a test. */
final class Check {
    private static int asked = 0;
    private static int wrong = 0;

    private Check() {
    }

    static void due(String call, long got, long want) {
        asked++;
        if (got != want) {
            wrong++;
            System.out.println(place() + call + " answered " + got + ", due is " + want);
        }
    }

    static void due(String call, boolean got, boolean want) {
        due(call, got ? 1 : 0, want ? 1 : 0);
    }

    static boolean isFine() {
        return wrong == 0;
    }

    static void finish() {
        System.out.println(asked + " answers, " + wrong + " of them not as due");
        if (wrong != 0 || asked == 0) {
            System.exit(1);
        }
    }

    /** The method that main called, with the line where it stands. */
    private static String place() {
        String place = "";
        for (StackTraceElement frame : new Throwable().getStackTrace()) {
            if (frame.getMethodName().equals("main")) {
                break;
            }
            place = frame.getMethodName() + ", line " + frame.getLineNumber() + ": ";
        }
        return place;
    }
}
