import java.util.ArrayList;
import java.util.List;
import java.util.function.Supplier;
import java.util.function.ToIntFunction;

/** What the tests of boundary cases share: burrows to ask, and that a refused call changes nothing else. */
final class Edges {
    static final int LEAST = Integer.MIN_VALUE;
    static final int GREATEST = Integer.MAX_VALUE;
    static final String SEVEN_LOCKS = "l0111;l0612;l1239;l3641;l2319;l4511;l5605;";
    static final String FIVE_PEOPLE = "pp01,7;pc12,0;pw62,9;ps33,1;pt64,2;";

    private final List<String> asked = new ArrayList<>();
    private final List<Integer> answers = new ArrayList<>();

    private Edges() {
    }

    /** Something of everything: doors open, minutes gone by, an image, gasps, a row of six, some letters. */
    static NeverBothDoors lived() {
        NeverBothDoors x = early();
        x.image();
        liveOn(x);
        return x;
    }

    static NeverBothDoors livedWithoutImage() {
        NeverBothDoors x = early();
        liveOn(x);
        return x;
    }

    private static NeverBothDoors early() {
        NeverBothDoors x = Checks.burrowOf("r0,50;k13;l0111;l0625;l1232;l3641;l2319;l4511;pp01,7;pc12,0;pw62,4;s12;s21;");
        x.open(4, 1);
        x.minutes(3);
        return x;
    }

    private static void liveOn(NeverBothDoors x) {
        x.open(3, 2);
        x.leak(2, 4);
        x.passes(0, 0);
        x.minutes(2);
        for (int passing : new int[] {0, 1, 21, 20, 12, 12}) {
            x.row(passing);
        }
        x.letter('k');
        x.letter('4');
    }

    /** All places full: 7 locks, 5 people, minute 999, 12 in the row, 96 letters; and an image of nothing. */
    static NeverBothDoors full() {
        NeverBothDoors x = new NeverBothDoors();
        x.image();
        Checks.told(x, SEVEN_LOCKS + FIVE_PEOPLE + "s15;s21;");
        atMinute(x, 999);
        x.open(2, 1);
        for (int i = 0; i < 12; i++) {
            x.row(i % 2 == 0 ? 1 : 0);
        }
        for (int i = 0; i < 96; i++) {
            x.letter("k12;".charAt(i % 4));
        }
        return x;
    }

    static void atMinute(NeverBothDoors x, int minute) {
        for (int left = minute - x.count(2); left > 0; left -= 99) {
            x.minutes(Math.min(99, left));
        }
    }

    /** One refusal, of just this number, and behind it all is as it is in an object that was not asked. */
    static void refused(Checks c, Supplier<NeverBothDoors> made, String call, ToIntFunction<NeverBothDoors> ask, int number) {
        NeverBothDoors x = made.get();
        int[] before = refusals(x);
        c.due(call, ask.applyAsInt(x), number);
        int[] behind = refusals(x);
        for (int i = 0; i < before.length; i++) {
            c.due(call + ", count(" + (11 + i) + ")", behind[i], before[i] + (i == -number - 1 ? 1 : 0));
        }
        dueSame(c, call, x, made.get());
    }

    private static int[] refusals(NeverBothDoors x) {
        int[] so = new int[6];
        for (int i = 0; i < so.length; i++) {
            so[i] = x.count(11 + i);
        }
        return so;
    }

    /** All that can be seen of the one is as of the other. Both are used up by it. */
    static void dueSame(Checks c, String where, NeverBothDoors got, NeverBothDoors want) {
        Edges is = new Edges();
        Edges due = new Edges();
        is.lookAtAll(got);
        due.lookAtAll(want);
        for (int i = 0; i < due.answers.size(); i++) {
            c.due(where + ", behind it " + due.asked.get(i), is.answers.get(i), due.answers.get(i));
        }
    }

    private void note(String call, int answer) {
        asked.add(call);
        answers.add(answer);
    }

    private void lookAtAll(NeverBothDoors x) {
        lookAtBurrow(x, "");
        lookAtRow(x);
        lookAtLetters(x);
        note("on()", x.on());
        lookAtBurrow(x, " on from the image");
    }

    private void lookAtBurrow(NeverBothDoors x, String when) {
        for (int what = 0; what < 8; what++) {
            note("count(" + what + ")" + when, x.count(what));
        }
        for (int i = 0; i < 6; i++) {
            for (int what = 0; what < 4; what++) {
                note("room(" + i + ", " + what + ")" + when, x.room(i, what));
            }
        }
        for (int i = 0; i < 7; i++) {
            for (int what = 0; what < 5; what++) {
                note("lock(" + i + ", " + what + ")" + when, x.lock(i, what));
            }
        }
        for (int i = 0; i < 5; i++) {
            for (int what = 0; what < 5; what++) {
                note("person(" + i + ", " + what + ")" + when, x.person(i, what));
            }
        }
        note("fitted()" + when, x.fitted());
        note("bare()" + when, x.bare());
    }

    private void lookAtRow(NeverBothDoors x) {
        note("judge()", x.judge());
        note("ends()", x.ends());
        note("gauges(0, 2)", x.gauges(0, 2));
        note("row(5)", x.row(5));
        note("clear()", x.clear());
    }

    private void lookAtLetters(NeverBothDoors x) {
        x.letter('7');
        x.letter(';');
        note("burrow() of the letters and 7;", x.burrow());
        for (int room = 0; room < 6; room++) {
            note("room(" + room + ", 1) behind the letters", x.room(room, 1));
        }
    }
}
