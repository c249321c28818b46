/** Counts the answers that are as due, and prints those that are not. */
final class Check {
    private static int passed;
    private static int failed;
    private static String about = "";

    private Check() {
    }

    static void is(String call, long due, long answer) {
        note(due == answer, call + " answered " + answer + ", due is " + due);
    }

    static void is(String call, boolean due, boolean answer) {
        note(due == answer, call + " answered " + answer + ", due is " + due);
    }

    static void noIndex(String call, Runnable what) {
        fails(call, IndexOutOfBoundsException.class, what);
    }

    static void noArgument(String call, Runnable what) {
        fails(call, IllegalArgumentException.class, what);
    }

    static void noState(String call, Runnable what) {
        fails(call, IllegalStateException.class, what);
    }

    /** The very class is asked for: the document's are no subclasses, such as those of the machine. */
    static void fails(String call, Class<?> due, Runnable what) {
        String thrown = "nothing";
        try {
            what.run();
        } catch (RuntimeException e) {
            thrown = e.getClass().getName();
        }
        note(thrown.equals(due.getName()), call + " threw " + thrown + ", due is " + due.getName());
    }

    static void note(boolean good, String text) {
        if (good) {
            passed++;
        } else {
            failed++;
            System.out.println("  WRONG: " + about + text);
        }
    }

    /** Tells what the checks that come are about. */
    static void about(String text) {
        about = text;
    }

    static int noted() {
        return passed + failed;
    }

    static void end() {
        System.out.println("  answers as due: " + passed + ", others: " + failed);
        if (failed > 0 || passed == 0) {
            System.exit(1);
        }
    }

    /** Types a whole text. */
    static void type(Tagwranglery x, String text) {
        for (int from = 0; from < text.length(); from += 8) {
            String piece = text.substring(from, Math.min(text.length(), from + 8));
            x.type(packed(piece), piece.length());
        }
    }

    /** Puts another text onto the tape. */
    static void retype(Tagwranglery x, String text) {
        x.wipe();
        type(x, text);
    }

    /** The characters of a text as type() takes them, the first one lowest. */
    static long packed(String text) {
        long all = 0;
        for (int i = text.length() - 1; i >= 0; i--) {
            all = all << 8 | text.charAt(i);
        }
        return all;
    }

    static int set(int... numbers) {
        int set = 0;
        for (int number : numbers) {
            set |= 1 << number;
        }
        return set;
    }

    /** A POSTED WORK with one chapter. */
    static int posted(Tagwranglery x, int person, int rating) {
        int work = x.work(person, rating);
        x.chapter(work);
        x.post(work);
        return work;
    }

    static void pass(Tagwranglery x, int days) {
        for (int left = days; left > 0; left -= 100) {
            x.pass(Math.min(left, 100));
        }
    }

    static void tags(Tagwranglery x, int count) {
        for (int i = 0; i < count; i++) {
            x.tag();
        }
    }

    static void mainTags(Tagwranglery x, int count) {
        for (int i = 0; i < count; i++) {
            x.make(x.tag());
        }
    }
}
