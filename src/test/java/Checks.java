/** Counts checks, and prints those that fail. */
final class Checks {
    private final String name;
    private String heading = "";
    private int passed;
    private int failed;

    Checks(String name) {
        this.name = name;
    }

    /** What the checks from now on belong to: it is printed with those that fail. */
    void head(String heading) {
        this.heading = heading;
    }

    void same(String what, long got, long due) {
        if (got == due) {
            passed++;
        } else {
            fail(what + " answered " + got + ", due is " + due);
        }
    }

    void sameBits(String what, double got, double due) {
        if (Double.doubleToRawLongBits(got) == Double.doubleToRawLongBits(due)) {
            passed++;
        } else {
            fail(what + " answered " + got + ", due is " + due);
        }
    }

    void sameText(String what, String got, String due) {
        if (got.equals(due)) {
            passed++;
        } else {
            fail(what + " answered <" + got + ">, due is <" + due + ">");
        }
    }

    void isTrue(String what, boolean holds) {
        if (holds) {
            passed++;
        } else {
            fail(what);
        }
    }

    void fail(String what) {
        failed++;
        if (failed <= 50) {
            System.out.println(name + ": " + (heading.isEmpty() ? "" : heading + ": ") + what);
        }
    }

    int count() {
        return passed + failed;
    }

    boolean hasFailed() {
        return failed > 0;
    }

    void end() {
        System.out.println(name + ": " + passed + " checks passed, " + failed + " failed");
        if (failed > 0 || passed == 0) {
            System.exit(1);
        }
    }
}
