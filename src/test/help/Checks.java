import java.util.Objects;
import java.util.concurrent.Callable;

/** What the tests of the project share: the answer that is due, and the refused call that changes nothing. */
abstract class Checks {
    static final int NONE = Feedloom.NONE;
    static final int HIDE = Feedloom.HIDE;
    static final int SHOW = Feedloom.SHOW;
    static final int LEAST = Integer.MIN_VALUE;
    static final int GREATEST = Integer.MAX_VALUE;
    static final Class<?> INDEX = IndexOutOfBoundsException.class;
    static final Class<?> ARGUMENT = IllegalArgumentException.class;
    static final Class<?> STATE = IllegalStateException.class;
    static final Class<?> ELEMENT = java.util.NoSuchElementException.class;
    static final Class<?> ARITHMETIC = ArithmeticException.class;

    private static int wrong = 0;
    private static int checked = 0;
    private static String promise = "";

    /** Names what the checks that follow belong to. */
    static void promise(String name) {
        promise = name;
    }

    /** Tells how many checks there were, and ends with exit code 1 if one of them was not as due. */
    static void end() {
        System.out.println(checked + " answers checked, " + wrong + " not as due");
        if (wrong != 0) {
            System.exit(1);
        }
    }

    static Object outcome(Callable<?> call) {
        try {
            return call.call();
        } catch (Exception e) {
            return e.getClass();
        }
    }

    static void due(String what, Object want, Callable<?> call) {
        checked++;
        Object got = outcome(call);
        if (!Objects.equals(got, want)) {
            wrong++;
            System.out.println(promise + ": " + what + " answered " + got + ", due is " + want);
        }
    }

    /** The call throws exactly the given class, and the object is afterwards as one that never got the call. */
    static void refused(String what, Reader x, Class<?> want, Callable<?> call) {
        unchanged(what, x, want, call);
    }

    /** The call has the outcome that is due, and the object is afterwards as one that never got the call. */
    static void unchanged(String what, Reader x, Object want, Callable<?> call) {
        Reader before = x.anew();
        due(what, want, call);
        alikeSeen(what, before, x);
    }

    /** Whatever is asked of the one object is answered by the other in the same way. */
    static void alikeSeen(String what, Reader one, Reader other) {
        for (Looks look : Looks.values()) {
            checked++;
            if (!look.at(one.anew()).equals(look.at(other.anew()))) {
                wrong++;
                System.out.println(promise + ": " + what + " changed what is seen by " + look);
            }
        }
    }

    static Reader withSources(int count) {
        Reader x = new Reader();
        for (int i = 0; i < count; i++) {
            x.addSource();
        }
        return x;
    }

    /** A title for an item of its own: its words are apart from those of other numbers below 32. */
    static long apart(int number) {
        return 3L << 2 * number;
    }

    static int plainItem(Reader x, int source, int number) {
        return x.fetch(source, 100 + number, NONE, apart(number), NONE);
    }
}
