import java.util.NoSuchElementException;

/** What all tests share: comparing answers, and feeding a text to an object. */
final class Check {
    static final int NONE = LastHome.NONE;
    static final int HIDDEN = LastHome.HIDDEN;
    private static int wrong = 0;

    private Check() {
    }

    static void same(String what, long got, long due) {
        if (got != due) {
            wrong++;
            System.out.println(what + " answered " + got + ", due is " + due);
        }
    }

    static void same(String what, boolean got, boolean due) {
        same(what, got ? 1 : 0, due ? 1 : 0);
    }

    /** The TAPE becomes the text, whatever it was. */
    static LastHome fed(LastHome x, String text) {
        x.end(0);
        for (int i = 0; i < text.length(); i += 20) {
            int[] numbers = new int[5];
            for (int j = 0; j < 20; j++) {
                int sign = i + j < text.length() ? text.charAt(i + j) : 0;
                numbers[j / 4] |= sign << 24 - j % 4 * 8;
            }
            x.feed(numbers[0], numbers[1], numbers[2], numbers[3], numbers[4]);
        }
        same("bytes of '" + text + "'", x.count(3), text.length());
        return x;
    }

    static LastHome war(String text) {
        return war(new LastHome(), text);
    }

    static LastHome war(LastHome x, String text) {
        fed(x, text);
        same("fault of '" + text + "'", x.fault(0), NONE);
        int men = x.text(0);
        same("men of '" + text + "'", men, x.count(0));
        return x;
    }

    static int law(LastHome x, String text) {
        fed(x, text);
        same("fault of '" + text + "'", x.fault(1), NONE);
        return x.text(1);
    }

    static boolean throwsNoSuchElement(LastHome x, int man, int what) {
        try {
            x.man(man, what);
            return false;
        } catch (NoSuchElementException e) {
            return true;
        }
    }

    static void finish(String name) {
        System.out.println(name + ": " + (wrong == 0 ? "all answers are as due" : wrong + " answers are wrong"));
        if (wrong != 0) {
            System.exit(1);
        }
    }
}
