/** What the tests share: due answers, due exceptions, and the exit code. */
final class Check {
    static final int INDEX = 1;
    static final int ARGUMENT = 2;
    static final int STATE = 3;
    private static final String[] THROWN = {"nothing", "IndexOutOfBoundsException", "IllegalArgumentException",
        "IllegalStateException"};
    private static int wrong = 0;
    private static int checked = 0;

    interface Call {
        int answer();
    }

    private Check() {
    }

    static void due(String call, long got, long want) {
        checked++;
        if (got != want) {
            wrong++;
            System.out.println(call + " answered " + got + ", due is " + want);
        }
    }

    /** Which of the document's exceptions a call throws: by its very class, so that a machine's own one differs. */
    static int thrownBy(Call call) {
        try {
            call.answer();
        } catch (RuntimeException e) {
            if (e.getClass() == IndexOutOfBoundsException.class) {
                return INDEX;
            }
            if (e.getClass() == IllegalArgumentException.class) {
                return ARGUMENT;
            }
            if (e.getClass() == IllegalStateException.class) {
                return STATE;
            }
            throw e;
        }
        return 0;
    }

    /** The answer, or a number that no answer is, for each exception. */
    static int outcome(Call call) {
        int[] answer = new int[1];
        int thrown = thrownBy(() -> {
            answer[0] = call.answer();
            return 0;
        });
        return thrown == 0 ? answer[0] : Integer.MIN_VALUE + thrown;
    }

    static void dueThrow(String text, int want, Call call) {
        int got = thrownBy(call);
        checked++;
        if (got != want) {
            wrong++;
            System.out.println(text + " threw " + THROWN[got] + ", due is " + THROWN[want]);
        }
    }

    static void end() {
        System.out.println(checked + " checks, " + wrong + " wrong");
        if (wrong != 0) {
            System.exit(1);
        }
    }
}
