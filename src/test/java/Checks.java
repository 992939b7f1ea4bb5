/** What the tests share: a due answer against the given one, and letters told as a text. */
final class Checks {
    private int checked = 0;
    private int wrong = 0;
    private String about = "";

    /** What is looked at from here on: a promise, and the words of the document that name the boundary. */
    void sentence(int promise, String words) {
        about = "promise " + promise + ", \"" + words + "\": ";
    }

    void due(String call, long got, long want) {
        checked++;
        if (got != want) {
            wrong++;
            System.out.println(about + call + " answered " + got + ", due is " + want);
        }
    }

    /** Tells the text letter by letter, and asks for the burrow. */
    static int told(NeverBothDoors x, String text) {
        for (int i = 0; i < text.length(); i++) {
            x.letter(text.charAt(i));
        }
        return x.burrow();
    }

    static NeverBothDoors burrowOf(String text) {
        NeverBothDoors x = new NeverBothDoors();
        int answer = told(x, text);
        if (answer < 0) {
            throw new IllegalStateException("the test's own text is faulty: " + text + " " + answer);
        }
        return x;
    }

    /** Clears the row, and tells these numbers. */
    static void row(NeverBothDoors x, int... numbers) {
        x.clear();
        for (int number : numbers) {
            x.row(number);
        }
    }

    /** The refusals so far, -1 to -6, as count tells them. */
    void dueRefusals(String where, NeverBothDoors x, int... want) {
        for (int i = 0; i < want.length; i++) {
            due(where + ": count(" + (11 + i) + ")", x.count(11 + i), want[i]);
        }
    }

    void end() {
        System.out.println(checked + " answers looked at, " + wrong + " not as due");
        if (wrong > 0 || checked == 0) {
            System.exit(1);
        }
    }
}
