/** Promises 19 and 20: fitted, bare. */
public final class SuitsTest {
    private static final Checks c = new Checks();

    public static void main(String[] args) {
        due("", 0, 0);
        due("s15;", 0, 0);
        due("pp01,0;", 0, 1);
        due("pp01,0;s11;", 1, 0);
        due("pp01,0;s21;", 1, 0);
        due("pp01,0;s31;", 0, 1);
        due("pp02,0;s15;", 0, 1);
        due("pp05,0;s51;", 1, 0);
        due("pp05,0;s45;", 0, 1);
        // The least bits go bare: with one suit for either, the first of people goes without.
        due("pp01,0;pp01,0;s11;", 1, 1);
        due("pp01,0;pp02,0;s21;", 1, 1);
        due("pp02,0;pp01,0;s21;", 1, 1);
        due("pp03,0;pp01,0;s11;s21;", 1, 1);
        // Only with the suit of his own fit for the lesser do both have one.
        due("pp01,0;pp02,0;s11;s21;", 2, 0);
        due("pp02,0;pp01,0;s21;s31;", 2, 0);
        due("pp01,0;pp02,0;pp03,0;pp04,0;pp05,0;s21;s31;s41;s51;", 4, 1);
        due("pp01,0;pp02,0;pp03,0;pp04,0;pp05,0;s11;s21;s41;s51;", 4, 4);
        due("pp01,0;pp01,0;pp01,0;pp01,0;pp01,0;s12;s21;", 3, 3);
        due("pp01,0;pp01,0;pp01,0;pp01,0;pp01,0;s25;", 5, 0);
        due("pp61,0;pt05,0;s11;s51;", 2, 0);
        inMind();
        c.end();
    }

    private static void due(String text, int fitted, int bare) {
        NeverBothDoors x = text.isEmpty() ? new NeverBothDoors() : Checks.burrowOf(text);
        c.due("fitted of " + text, x.fitted(), fitted);
        c.due("bare of " + text, x.bare(), bare);
    }

    private static void inMind() {
        NeverBothDoors x = Checks.burrowOf("pp01,5;pp01,0;s11;");
        x.fitted();
        x.bare();
        c.due("suit as it was", x.person(1, 3), 0);
        c.due("suit as it was", x.person(0, 3), 5);
        c.due("again", x.fitted(), 1);
        Checks.told(x, "s12;");
        c.due("so many, not so many more", x.fitted(), 2);
        Checks.told(x, "s10;");
        c.due("none then", x.fitted(), 0);
    }
}
