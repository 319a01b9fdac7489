/** Counts and prints the calls whose answer is not the one that is due. */
final class Due {
    private static int wrong = 0;
    private static int asked = 0;

    private Due() {
    }

    static void is(String call, long got, long want) {
        asked++;
        if (got != want) {
            tellWrong(call + " answered " + got + ", due is " + want);
        }
    }

    static void alike(String call, String got, String want) {
        asked++;
        if (!got.equals(want)) {
            tellWrong(call + "\n  left  " + got + "\n  due is " + want);
        }
    }

    private static void tellWrong(String what) {
        wrong++;
        // A broken promise fails in many places; the first ones tell enough.
        if (wrong <= 40) {
            System.out.println(what);
        }
    }

    static boolean allRight() {
        return wrong == 0;
    }

    static void end() {
        System.out.println(wrong == 0 ? asked + " answers are as due" : wrong + " answers are not as due");
        if (wrong != 0 || asked == 0) {
            System.exit(1);
        }
    }
}
