import java.util.List;

/** Counts and prints the answers that are not as due. */
final class Due {
    private int wrong;
    private String about = "";

    void about(String what) {
        about = what;
    }

    void is(String call, long got, long want) {
        if (got != want) {
            wrong++;
            System.out.println(about + ": " + call + " answered " + got + ", due is " + want);
        }
    }

    /** That two runs leave objects of which every question is answered alike. */
    void alike(String call, List<String> one, List<String> other) {
        String unlike = Whole.unlike(one, other);
        if (!unlike.isEmpty()) {
            wrong++;
            System.out.println(about + ": " + call + ": " + unlike);
        }
    }

    void end() {
        System.out.println(wrong == 0 ? "all answers are as due" : wrong + " answers are not as due");
        if (wrong != 0) {
            System.exit(1);
        }
    }
}
