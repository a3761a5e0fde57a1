/** Counts the calls whose answer is not the one that is due, and prints them. */
final class Expect {
    private static int wrong = 0;
    private static int asked = 0;
    private static String part = "";

    private Expect() {
    }

    static void part(String name) {
        part = name;
    }

    static void due(String call, long got, long want) {
        asked++;
        if (got != want) {
            fault(call + " answered " + got + ", due is " + want);
        }
    }

    static void same(String what, String got, String want) {
        asked++;
        if (!got.equals(want)) {
            fault(what + "\n  is   " + got + "\n  due: " + want);
        }
    }

    static void fault(String text) {
        wrong++;
        System.out.println(part + ": " + text);
    }

    static void finish() {
        System.out.println(asked + " answers, " + wrong + " not as due");
        if (wrong != 0 || asked == 0) {
            System.exit(1);
        }
    }
}
