import java.util.ArrayList;
import java.util.List;

/** Counts answers that are not due, and tells them. */
final class Check {
    private final String title;
    private int asked = 0;
    private int wrong = 0;
    private final List<Runnable> last = new ArrayList<>();

    Check(String title) {
        this.title = title;
    }

    void same(String what, long got, long due) {
        asked++;
        if (got != due) {
            wrong++;
            System.out.println(title + ": " + what + " answered " + got + ", due is " + due);
        }
    }

    void isTrue(String what, boolean holds) {
        asked++;
        if (!holds) {
            wrong++;
            System.out.println(title + ": not so: " + what);
        }
    }

    boolean hasWrong() {
        return wrong != 0;
    }

    /** What is to be looked at when all else has been. */
    void atEnd(Runnable look) {
        last.add(look);
    }

    void end() {
        for (Runnable look : last) {
            look.run();
        }
        System.out.println(title + ": " + asked + " checks, " + wrong + " wrong");
        if (wrong != 0) {
            System.exit(1);
        }
    }
}
