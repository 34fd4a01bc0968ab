import java.util.NoSuchElementException;

/** Counts and prints the answers that are not as due. */
final class Check {
    private final String name;
    private String sentence = "";
    private int asked = 0;
    private int wrong = 0;

    Check(String name) {
        this.name = name;
    }

    /** The document's words that the asks from here on hold the class to. */
    void sentence(String words) {
        sentence = " [" + words + "]";
    }

    void due(String call, long got, long want) {
        asked++;
        if (got != want) {
            wrong++;
            System.out.println(name + ": " + call + " answered " + got + ", due is " + want + sentence);
        }
    }

    /** A call that was refused by a number. */
    void refused(String call, StepperHearts x, long got, int by) {
        due(call, got, StepperHearts.NONE);
        due("trouble() behind " + call, x.trouble(), by);
    }

    /** A call that wasn't refused. */
    void taken(String call, StepperHearts x, long got, long want) {
        due(call, got, want);
        due("trouble() behind " + call, x.trouble(), 0);
    }

    /** A new object that has the text's program. */
    StepperHearts told(String text) {
        StepperHearts x = new StepperHearts();
        isTrue("'" + text + "' is a program", tell(x, text) > 0);
        return x;
    }

    void isTrue(String what, boolean holds) {
        due(what, holds ? 1 : 0, 1);
    }

    void dueOut(StepperHearts x, int i, int want) {
        due("out(" + i + ")", x.out(i), want);
    }

    void duePile(StepperHearts x, int i, int want) {
        due("pile(" + i + ")", x.pile(i), want);
    }

    void noOut(StepperHearts x, int i) {
        int thrown = 0;
        try {
            x.out(i);
        } catch (NoSuchElementException e) {
            thrown = e.getClass() == NoSuchElementException.class ? 1 : 2;
        }
        due("out(" + i + ") throws", thrown, 1);
    }

    void noPile(StepperHearts x, int i) {
        int thrown = 0;
        try {
            x.pile(i);
        } catch (NoSuchElementException e) {
            thrown = e.getClass() == NoSuchElementException.class ? 1 : 2;
        }
        due("pile(" + i + ") throws", thrown, 1);
    }

    /** Feeds the text, blanks behind it, and takes it as the program; on an empty tape only. */
    static int tell(StepperHearts x, String text) {
        feedText(x, text);
        return x.program(text.length());
    }

    static void feedText(StepperHearts x, String text) {
        StringBuilder padded = new StringBuilder(text);
        while (padded.length() % 20 != 0) {
            padded.append(' ');
        }
        for (int at = 0; at < padded.length(); at += 20) {
            x.feed(four(padded, at), four(padded, at + 4), four(padded, at + 8), four(padded, at + 12),
                four(padded, at + 16));
        }
    }

    static int four(CharSequence text, int at) {
        return text.charAt(at) << 24 | text.charAt(at + 1) << 16 | text.charAt(at + 2) << 8 | text.charAt(at + 3);
    }

    static String repeat(String text, int times) {
        return text.repeat(times);
    }

    void end() {
        System.out.println(name + ": " + asked + " asked, " + wrong + " not as due");
        if (wrong != 0) {
            System.exit(1);
        }
    }
}
