/** Counts the answers that are not the ones due. */
final class Check {
    private int wrong = 0;

    void same(String call, long got, long due) {
        if (got != due) {
            tell(call + " answered " + got + ", due is " + due);
        }
    }

    void yes(String call, boolean got) {
        same(call, got ? 1 : 0, 1);
    }

    void no(String call, boolean got) {
        same(call, got ? 1 : 0, 0);
    }

    void sameText(String what, String got, String due) {
        if (!got.equals(due)) {
            tell(what + " is\n" + got + "\ndue is\n" + due);
        }
    }

    void outOfBounds(String call, Runnable run) {
        refuses(call, IndexOutOfBoundsException.class, run);
    }

    void illegal(String call, Runnable run) {
        refuses(call, IllegalArgumentException.class, run);
    }

    /** Whether it was thrown by a throw of the class itself, and not by the machine or the library below it. */
    static boolean isOwn(RuntimeException thrown) {
        Class<?> kind = thrown.getClass();
        boolean named = kind == IndexOutOfBoundsException.class || kind == IllegalArgumentException.class;
        StackTraceElement[] calls = thrown.getStackTrace();
        return named && calls.length > 0 && calls[0].getClassName().equals("TrustChain");
    }

    private void refuses(String call, Class<? extends RuntimeException> due, Runnable run) {
        try {
            run.run();
        } catch (RuntimeException thrown) {
            if (thrown.getClass() != due || !isOwn(thrown)) {
                tell(call + " threw " + thrown + ", due is " + due.getName());
            }
            return;
        }
        tell(call + " threw nothing, due is " + due.getName());
    }

    void tell(String fault) {
        wrong++;
        System.out.println(fault);
    }

    void end() {
        if (wrong > 0) {
            System.out.println(wrong + " wrong");
            System.exit(1);
        }
    }
}
