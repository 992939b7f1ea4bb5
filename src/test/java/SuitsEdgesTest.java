/** Boundary cases of promises 19 and 20: fitted, bare. */
public final class SuitsEdgesTest {
    private static final Checks c = new Checks();

    public static void main(String[] args) {
        promise19Nobody();
        promise19FitOr1More();
        promise19GreatestFit();
        promise19AllAtOnce();
        promise20LeastBits();
        promise20AsManyAsCan();
        neverRefused();
        c.end();
    }

    private static void dueSuits(String text, int fitted, int bare) {
        NeverBothDoors x = text.isEmpty() ? new NeverBothDoors() : Checks.burrowOf(text);
        c.due("fitted() of " + text, x.fitted(), fitted);
        c.due("bare() of " + text, x.bare(), bare);
    }

    private static void promise19Nobody() {
        c.sentence(19, "FITTED: the most PEOPLE");
        dueSuits("", 0, 0);
        dueSuits("s15;s25;s35;s45;s55;", 0, 0);
        dueSuits("pp01,9;", 0, 1);
        dueSuits("pp01,9;".repeat(5), 0, 31);
    }

    private static void promise19FitOr1More() {
        c.sentence(19, "(each by FIT: a SUIT of his FIT or 1 more)");
        for (int fit = 1; fit <= 5; fit++) {
            for (int suit = 1; suit <= 5; suit++) {
                boolean fits = suit == fit || suit == fit + 1;
                dueSuits("pp0" + fit + ",0;s" + suit + "1;", fits ? 1 : 0, fits ? 0 : 1);
            }
        }
    }

    private static void promise19GreatestFit() {
        c.sentence(19, "SUITS: of FITS 1 .. 5 so many (0 .. 5: 0 at first)");
        dueSuits("pp05,0;s55;", 1, 0);
        dueSuits("pp05,0;s50;", 0, 1);
        dueSuits("pp05,0;s15;s25;s35;s45;", 0, 1);
        dueSuits("pp01,0;".repeat(5) + "s15;", 5, 0);
        dueSuits("pp01,0;".repeat(5) + "s14;", 4, 1);
        dueSuits("pp05,0;".repeat(5) + "s51;", 1, 15);
    }

    private static void promise19AllAtOnce() {
        c.sentence(19, "who can have SUITS at once");
        dueSuits("pp01,0;pp02,0;pp03,0;pp04,0;pp05,0;s11;s21;s31;s41;s51;", 5, 0);
        dueSuits("pp05,0;pp04,0;pp03,0;pp02,0;pp01,0;s11;s21;s31;s41;s51;", 5, 0);
        dueSuits("pp01,0;pp02,0;pp03,0;pp04,0;pp04,0;s21;s31;s41;s52;", 5, 0);
        dueSuits("pp01,0;pp01,0;pp02,0;pp02,0;s11;s22;s31;", 4, 0);
        dueSuits("pp61,0;pp01,0;s11;", 1, 1);
    }

    private static void promise20LeastBits() {
        c.sentence(20, "PEOPLE (bits) who have none, if as many as can have one, of several ways the least bits");
        dueSuits("pp01,0;pp01,0;s11;", 1, 1);
        dueSuits("pp01,0;pp02,0;s21;", 1, 1);
        dueSuits("pp02,0;pp01,0;s21;", 1, 1);
        dueSuits("pp01,0;pp01,0;pp01,0;pp01,0;pp01,0;s13;", 3, 3);
        dueSuits("pp01,0;pp05,0;pp01,0;s11;s51;", 2, 1);
        dueSuits("pp05,0;pp01,0;pp01,0;s11;s51;", 2, 2);
        dueSuits("pp03,0;pp03,0;pp02,0;pp02,0;s31;", 1, 7);
    }

    private static void promise20AsManyAsCan() {
        c.sentence(20, "if as many as can have one");
        // The last one alone can go bare, though his bit is the greatest.
        dueSuits("pp01,0;pp01,0;pp01,0;pp01,0;pp05,0;s14;", 4, 16);
        dueSuits("pp01,0;pp02,0;pp03,0;s11;s31;", 2, 2);
    }

    private static void neverRefused() {
        c.sentence(20, "BARE (bits).");
        NeverBothDoors x = Edges.lived();
        x.fitted();
        x.bare();
        c.dueRefusals("never refused", x, 0, 0, 0, 0, 0, 0);
        Edges.dueSame(c, "fitted() and bare() are in mind", x, Edges.lived());
    }
}
