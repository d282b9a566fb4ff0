/** Compares answers with what is due and prints those that differ. */
final class Due {
    static final Class<?> INDEX = IndexOutOfBoundsException.class;
    static final Class<?> ARGUMENT = IllegalArgumentException.class;
    static final Class<?> STATE = IllegalStateException.class;

    interface Call {
        long answer();
    }

    private String promise = "";
    private int calls = 0;
    private int wrong = 0;

    void promise(int number) {
        promise = "promise " + number + ": ";
    }

    /** The number of a promise or the name of a section, and what it says. */
    void sentence(String words) {
        promise = words + ": ";
    }

    void is(String call, long got, long due) {
        calls++;
        if (got != due) {
            tell(call + " answered " + got + ", due is " + due);
        }
    }

    void isReal(String call, double got, double due) {
        calls++;
        if (got != due) {
            tell(call + " answered " + got + ", due is " + due);
        }
    }

    /** The call throws just this class, and the room is as it was. */
    void refused(MinimaRoom room, String call, Class<?> due, Call made) {
        calls++;
        long before = room.digest();
        String got;
        try {
            got = "answered " + made.answer();
        } catch (RuntimeException e) {
            got = e.getClass() == due ? "" : "threw " + e.getClass().getName();
        }
        if (!got.isEmpty()) {
            tell(call + " " + got + ", due is " + due.getName());
        }
        if (room.digest() != before) {
            tell(call + " changed the room, though it is to throw");
        }
    }

    void tell(String what) {
        wrong++;
        System.out.println(promise + what);
    }

    void end() {
        System.out.println(wrong == 0 ? calls + " answers are as due" : wrong + " of " + calls + " are not as due");
        if (wrong != 0 || calls == 0) {
            System.exit(1);
        }
    }
}
