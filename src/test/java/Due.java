import java.util.List;

/** Counts the answers that are not those that are due. */
final class Due {
    private int wrong = 0;
    private int asked = 0;

    void is(String call, long got, long want) {
        asked++;
        if (got != want) {
            wrong++;
            System.out.println(call + " answered " + got + ", due is " + want);
        }
    }

    /** Tells the first row alone that differs: the rows behind it follow from it. */
    void same(String call, List<String> got, List<String> want) {
        asked++;
        for (int i = 0; i < want.size() || i < got.size(); i++) {
            String mine = i < got.size() ? got.get(i) : "no row";
            String other = i < want.size() ? want.get(i) : "no row";
            if (!mine.equals(other)) {
                wrong++;
                System.out.println(call + ": then " + mine + ", due is " + other);
                return;
            }
        }
    }

    void end() {
        System.out.println(asked + " answers, " + wrong + " not as due");
        if (wrong != 0) {
            System.exit(1);
        }
    }
}
