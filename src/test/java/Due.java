/** Compares what calls answer with what is due, and counts those that differ. */
final class Due {
    interface Call {
        Object run();
    }

    static final Class<?> INDEX = IndexOutOfBoundsException.class;
    static final Class<?> ARGUMENT = IllegalArgumentException.class;
    static final Class<?> UNSUPPORTED = UnsupportedOperationException.class;
    static final Class<?> STATE = IllegalStateException.class;
    static final Class<?> ELEMENT = java.util.NoSuchElementException.class;
    static final Class<?> ARITHMETIC = ArithmeticException.class;

    private int wrong = 0;
    private int calls = 0;

    /** What a call answers: its value, or the class of what it throws. */
    static Object answer(Call call) {
        try {
            return call.run();
        } catch (RuntimeException thrown) {
            return kind(thrown);
        }
    }

    /** An exception that the library throws, as a list does at a wrong index, is none of the class's own. */
    static Object kind(Throwable thrown) {
        StackTraceElement[] trace = thrown.getStackTrace();
        boolean isOwn = trace.length > 0 && trace[0].getClassName().indexOf('.') < 0;
        return isOwn ? thrown.getClass() : "by the machine " + thrown;
    }

    /** The want is a value, or the class of the exception that is due. */
    void is(String name, Object want, Call call) {
        Object got = answer(call);
        calls++;
        if (!want.equals(got)) {
            wrong++;
            System.out.println(name + " answered " + got + ", due is " + want);
        }
    }

    void end() {
        System.out.println(wrong == 0 ? calls + " answers are as due" : wrong + " answers are not as due");
        if (wrong != 0) {
            System.exit(1);
        }
    }

    /** Adds shades of the letters from 'A' on, black ones but for a red that rises by 1. */
    static Settbook bookOfShades(int shades) {
        Settbook book = new Settbook();
        for (int i = 0; i < shades; i++) {
            book.addShade((char) ('A' + i), i, 0, 0);
        }
        return book;
    }

    /** Tells a row of shade, count, shade, count and so on in place of the one before. */
    static void tell(Settbook book, int... stripes) {
        book.clearStripes();
        for (int i = 0; i < stripes.length; i += 2) {
            book.addStripe(stripes[i], stripes[i + 1]);
        }
    }

    static int sett(Settbook book, boolean isMirrored, int... stripes) {
        tell(book, stripes);
        return book.makeSett(isMirrored);
    }
}
