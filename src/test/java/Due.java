import java.util.Objects;

/** Counts the answers that are not due, and prints each of them. */
final class Due {
    static final Class<? extends RuntimeException> INDEX = IndexOutOfBoundsException.class;
    static final Class<? extends RuntimeException> ARGUMENT = IllegalArgumentException.class;
    static final Class<? extends RuntimeException> STATE = IllegalStateException.class;

    /** A call of the face; a boolean answer counts 1 or 0. */
    interface Call {
        long run();
    }

    private final String name;
    private int asked = 0;
    private int wrong = 0;

    Due(String name) {
        this.name = name;
    }

    static long bit(boolean answer) {
        return answer ? 1 : 0;
    }

    void is(String what, long want, Call call) {
        String got;
        try {
            got = String.valueOf(call.run());
        } catch (RuntimeException e) {
            got = e.toString();
        }
        same(what, String.valueOf(want), got);
    }

    /** The very class that is due: a class below it would be one that the machine throws. */
    void fails(String what, Class<? extends RuntimeException> kind, Call call) {
        String got;
        try {
            got = String.valueOf(call.run());
        } catch (RuntimeException e) {
            got = e.getClass().getName();
        }
        same(what, kind.getName(), got);
    }

    void same(String what, Object want, Object got) {
        asked++;
        if (!Objects.equals(want, got)) {
            wrong++;
            if (wrong <= 20) {
                System.out.println(name + ": " + what + " answered " + got + ", due is " + want);
            }
        }
    }

    boolean allRight() {
        return wrong == 0;
    }

    void end() {
        System.out.println(name + ": " + asked + " answers, " + wrong + " not as due");
        if (wrong != 0 || asked == 0) {
            System.exit(1);
        }
    }
}
