/** Counts answers that are not the ones that are due. */
final class Due {
    static final Class<?> NO_SUCH = IndexOutOfBoundsException.class;
    static final Class<?> NO_USE = IllegalArgumentException.class;
    static final Class<?> NOT_NOW = IllegalStateException.class;

    private int wrong = 0;
    private String part = "";

    void part(String name) {
        part = name;
    }

    void is(String call, long got, long due) {
        if (got != due) tell(call + " answered " + got + ", due is " + due);
    }

    void is(String call, boolean got, boolean due) {
        if (got != due) tell(call + " answered " + got + ", due is " + due);
    }

    void is(String call, double got, double due) {
        if (got != due) tell(call + " answered " + got + ", due is " + due);
    }

    /** The numbers that a row of calls answers. */
    void row(String call, int[] got, int... due) {
        String gotText = java.util.Arrays.toString(got);
        String dueText = java.util.Arrays.toString(due);
        if (!gotText.equals(dueText)) tell(call + " answered " + gotText + ", due is " + dueText);
    }

    /** The call throws just this exception, by the class itself and not by the library, and changes nothing. */
    void fails(Hornbook x, String call, Class<?> due, Runnable run) {
        long before = x.digest();
        Class<?> got = null;
        try {
            run.run();
        } catch (RuntimeException e) {
            got = e.getClass();
            String thrower = e.getStackTrace()[0].getClassName();
            if (!thrower.equals("Hornbook")) tell(call + " threw by " + thrower);
        }
        if (got != due) tell(call + " threw " + got + ", due is " + due);
        if (x.digest() != before) tell(call + " threw, but changed something");
    }

    /** The LINE of the TYPE of an EXPRESSION, up to and with the first -9. */
    static int[] line(Hornbook x, int expression) {
        int[] line = new int[40];
        for (int k = 0; k < 40; k++) {
            line[k] = x.line(expression, k);
            if (line[k] == -9) return java.util.Arrays.copyOf(line, k);
        }
        return line;
    }

    static int[] road(Hornbook x, int type, int place) {
        int[] line = new int[40];
        for (int k = 0; k < 40; k++) {
            line[k] = x.road(type, place, k);
            if (line[k] == -9) return java.util.Arrays.copyOf(line, k);
        }
        return line;
    }

    static int[] join(Hornbook x, int a, int b) {
        int[] line = new int[40];
        for (int k = 0; k < 40; k++) {
            line[k] = x.join(a, b, k);
            if (line[k] == -9) return java.util.Arrays.copyOf(line, k);
        }
        return line;
    }

    static int[] own(Hornbook x, int expression) {
        int[] line = new int[40];
        for (int k = 0; k < 40; k++) {
            line[k] = x.own(expression, k);
            if (line[k] == -9) return java.util.Arrays.copyOf(line, k);
        }
        return line;
    }

    void end() {
        System.out.println(wrong == 0 ? "all answers are as due" : wrong + " answers are not as due");
        if (wrong != 0) System.exit(1);
    }

    private void tell(String what) {
        wrong++;
        System.out.println(part + ": " + what);
    }
}
