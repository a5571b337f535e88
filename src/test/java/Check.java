/** Counts the answers that are not the ones that are due, and tells each of them. */
final class Check {
    private String section = "";
    private int made = 0;
    private int wrong = 0;

    void section(String name) {
        section = name;
    }

    void same(String call, long got, long due) {
        made++;
        if (got != due) {
            wrong++;
            System.out.println(section + ": " + call + " answered " + got + ", due is " + due);
        }
    }

    void same(String call, boolean got, boolean due) {
        same(call, got ? 1 : 0, due ? 1 : 0);
    }

    boolean anyWrong() {
        return wrong > 0;
    }

    void finish() {
        System.out.println(made + " answers looked at, " + wrong + " not as due");
        if (wrong > 0) {
            System.exit(1);
        }
    }
}
