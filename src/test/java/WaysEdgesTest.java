/** Boundary cases of promises 14 to 18: way, soonest, farthest, more, errands. */
public final class WaysEdgesTest {
    // One row of all places, outside at its end, each lock of the longest cycle.
    private static final String ROW_OF_NINES = "l0119;l1219;l2319;l3419;l4519;l5619;";
    // Each room by a lock of its own to the outside, of cycles 1 to 6.
    private static final String STAR = "l0601;l1602;l2603;l3604;l4605;l5606;";
    private static final Checks c = new Checks();

    public static void main(String[] args) {
        promise14ToItself();
        promise14LeastAndLongest();
        promise14Doors();
        promise14Fewest();
        promise14Refusals();
        promise15FromARoom();
        promise15FromOutside();
        promise15Refusals();
        promise16None();
        promise16OfSeveralTheLeast();
        promise16LeastAndLongest();
        promise16Refusals();
        promise17None();
        promise17AllRooms();
        promise17OfSeveralTheLeast();
        promise17Greatest();
        promise17WithAllLocks();
        promise17Refusals();
        promise18Least();
        promise18All();
        promise18None();
        promise18WhateverOrder();
        promise18Refusals();
        nothingChanges();
        c.end();
    }

    private static void promise14ToItself() {
        c.sentence(14, "WAY: the fewest MINUTES of CYCLES (DOORS aside) from a PLACE to another by LOCKS; -9.");
        NeverBothDoors x = new NeverBothDoors();
        NeverBothDoors all = Checks.burrowOf(ROW_OF_NINES);
        for (int from = 0; from < 7; from++) {
            for (int to = 0; to < 7; to++) {
                c.due("way(" + from + ", " + to + "), no lock yet", x.way(from, to), from == to ? 0 : -9);
                c.due("way(" + from + ", " + to + ") in a row", all.way(from, to), 9 * Math.abs(from - to));
            }
        }
    }

    private static void promise14LeastAndLongest() {
        c.sentence(14, "the fewest MINUTES of CYCLES");
        NeverBothDoors x = Checks.burrowOf("l0691;");
        c.due("one minute", x.way(6, 0), 1);
        c.due("back", x.way(0, 6), 1);
        c.due("the longest of all", Checks.burrowOf(ROW_OF_NINES).way(0, 6), 54);
        c.due("from the last room by the last of seven", Checks.burrowOf("l0111;".repeat(6) + "l5619;").way(5, 6), 9);
    }

    private static void promise14Doors() {
        c.sentence(14, "(DOORS aside)");
        NeverBothDoors x = Checks.burrowOf("l0113;l0609;");
        x.open(0, 1);
        x.open(1, 2);
        c.due("way(1, 6), with doors open", x.way(1, 6), 12);
        c.due("soonest(6), with doors open", x.soonest(6), 9);
        c.due("farthest(1), with doors open", x.farthest(1), 12);
        c.due("errands(6, 3), with doors open", x.errands(6, 3), 12);
    }

    private static void promise14Fewest() {
        c.sentence(14, "the fewest MINUTES of CYCLES");
        c.due("the quicker of two locks, behind", Checks.burrowOf("l0119;l0113;").way(0, 1), 3);
        c.due("the quicker of two locks, ahead", Checks.burrowOf("l0113;l0119;").way(0, 1), 3);
        c.due("round about", Checks.burrowOf("l0119;l0214;l1214;").way(0, 1), 8);
        c.due("as quick", Checks.burrowOf("l0118;l0214;l1214;").way(0, 1), 8);
        c.due("quicker", Checks.burrowOf("l0117;l0214;l1214;").way(0, 1), 7);
        c.due("by the outside", Checks.burrowOf("l0119;l0611;l1611;").way(0, 1), 2);
        c.due("size is no matter", Checks.burrowOf("l0191;l0102;").way(0, 1), 1);
    }

    private static void promise14Refusals() {
        c.sentence(14, "WAY; -9. -1 either.");
        Edges.refused(c, Edges::lived, "way(-1, 0)", x -> x.way(-1, 0), -1);
        Edges.refused(c, Edges::lived, "way(7, 0)", x -> x.way(7, 0), -1);
        Edges.refused(c, Edges::lived, "way(0, -1)", x -> x.way(0, -1), -1);
        Edges.refused(c, Edges::lived, "way(0, 7)", x -> x.way(0, 7), -1);
        Edges.refused(c, Edges::lived, "way(7, 7), either", x -> x.way(7, 7), -1);
        Edges.refused(c, Edges::lived, "way(least, 0)", x -> x.way(Edges.LEAST, 0), -1);
        Edges.refused(c, Edges::lived, "way(0, greatest)", x -> x.way(0, Edges.GREATEST), -1);
    }

    private static void promise15FromARoom() {
        c.sentence(15, "SOONEST: the least WAY from a PLACE to any ROOM (0 from one).");
        NeverBothDoors x = new NeverBothDoors();
        NeverBothDoors all = Checks.burrowOf(ROW_OF_NINES);
        for (int room = 0; room < 6; room++) {
            c.due("soonest(" + room + "), no lock yet", x.soonest(room), 0);
            c.due("soonest(" + room + ")", all.soonest(room), 0);
        }
    }

    private static void promise15FromOutside() {
        c.sentence(15, "SOONEST; -9.");
        c.due("no lock yet", new NeverBothDoors().soonest(6), -9);
        c.due("none with the outside", Checks.burrowOf("l0111;l4511;").soonest(6), -9);
        c.due("to the last room", Checks.burrowOf("l5609;").soonest(6), 9);
        c.due("to the first room", Checks.burrowOf("l0609;").soonest(6), 9);
        c.due("the least of several", Checks.burrowOf("l0609;l3602;l5603;").soonest(6), 2);
    }

    private static void promise15Refusals() {
        c.sentence(15, "SOONEST; -9. -1.");
        Edges.refused(c, Edges::lived, "soonest(-1)", x -> x.soonest(-1), -1);
        Edges.refused(c, Edges::lived, "soonest(7)", x -> x.soonest(7), -1);
        Edges.refused(c, Edges::lived, "soonest(least)", x -> x.soonest(Edges.LEAST), -1);
        Edges.refused(c, Edges::lived, "soonest(greatest)", x -> x.soonest(Edges.GREATEST), -1);
    }

    private static void dueFarthest(String text, int room, int minutes) {
        NeverBothDoors x = text.isEmpty() ? new NeverBothDoors() : Checks.burrowOf(text);
        c.due("farthest(0) of " + text, x.farthest(0), room);
        c.due("farthest(1) of " + text, x.farthest(1), minutes);
    }

    private static void promise16None() {
        c.sentence(16, "FARTHEST: the ROOM (what 0; -9), the WAY (1; -9).");
        dueFarthest("", -9, -9);
        dueFarthest("l0111;l1211;l4511;", -9, -9);
    }

    private static void promise16OfSeveralTheLeast() {
        c.sentence(16, "the ROOM whose WAY from OUTSIDE is longest of those that have one, of several the least");
        dueFarthest("l5604;l3604;", 3, 4);
        dueFarthest("l3604;l5604;l0603;", 3, 4);
        dueFarthest("l0601;l1601;l2601;l3601;l4601;l5601;", 0, 1);
        dueFarthest("l0601;l4605;l5605;l1239;", 4, 5);
        dueFarthest(STAR, 5, 6);
    }

    private static void promise16LeastAndLongest() {
        c.sentence(16, "the ROOM whose WAY from OUTSIDE is longest of those that have one");
        dueFarthest("l0601;", 0, 1);
        dueFarthest("l5609;", 5, 9);
        dueFarthest(ROW_OF_NINES, 0, 54);
    }

    private static void promise16Refusals() {
        c.sentence(16, "the WAY (1; -9). -2.");
        Edges.refused(c, Edges::lived, "farthest(-1)", x -> x.farthest(-1), -2);
        Edges.refused(c, Edges::lived, "farthest(2)", x -> x.farthest(2), -2);
        Edges.refused(c, Edges::lived, "farthest(least)", x -> x.farthest(Edges.LEAST), -2);
        Edges.refused(c, Edges::lived, "farthest(greatest)", x -> x.farthest(Edges.GREATEST), -2);
        Edges.refused(c, NeverBothDoors::new, "farthest(2), no lock yet", x -> x.farthest(2), -2);
    }

    private static void dueMore(String text, int places, int minutes) {
        NeverBothDoors x = text.isEmpty() ? new NeverBothDoors() : Checks.burrowOf(text);
        c.due("more(0) of " + text, x.more(0), places);
        c.due("more(1) of " + text, x.more(1), minutes);
    }

    private static void promise17None() {
        c.sentence(17, "MORE: the two PLACES (what 0; -9), the WAY (1; -9).");
        dueMore("", -9, -9);
        dueMore("l0611;l1611;l2611;l3611;", -9, -9);
    }

    private static void promise17AllRooms() {
        c.sentence(17, "(all ROOMS must have one)");
        // The sixth room can be joined by this one lock alone, the last two not at once.
        dueMore("l0611;l1611;l2611;l3611;l4611;", 56, 1);
        dueMore("l0619;l1611;l2611;l3611;l4611;", 15, 9);
        dueMore("l0611;l1611;l2611;l3611;l4511;", 46, 2);
        dueMore("l0111;l1211;l2311;l3411;l4511;", 26, 4);
    }

    private static void promise17OfSeveralTheLeast() {
        c.sentence(17, "10 times the lesser and the other, of several the least; that WAY");
        dueMore("l0601;l1601;l2601;l3601;l4601;l5601;", 1, 1);
        // With 5 and 4 both at 2 no one lock makes both 1.
        dueMore("l0601;l1601;l2601;l3601;l4602;l5602;", 1, 2);
        // 5 is 9: by any of the other rooms it is 2, by the outside 1.
        dueMore("l0601;l1601;l2601;l3601;l4601;l5609;", 56, 1);
        dueMore("l0602;l1601;l2602;l3602;l4602;l5609;", 15, 2);
    }

    private static void promise17Greatest() {
        c.sentence(17, "one LOCK of CYCLE 1 more between two unlike PLACES");
        dueMore("l0601;l1601;l2601;l3601;l4601;l5602;", 56, 1);
        // 54, 45, 36 .. 9: by 1-6 they are 10, 1, 10, 19, 18, 9.
        dueMore(ROW_OF_NINES, 16, 19);
    }

    private static void promise17WithAllLocks() {
        c.sentence(17, "one LOCK of CYCLE 1 more");
        dueMore(ROW_OF_NINES + "l5619;", 16, 19);
        NeverBothDoors x = Checks.burrowOf(ROW_OF_NINES + "l5619;");
        x.more(0);
        c.due("in mind", x.count(0), 7);
        c.due("in mind", x.way(1, 6), 45);
    }

    private static void promise17Refusals() {
        c.sentence(17, "the WAY (1; -9). -2.");
        Edges.refused(c, Edges::lived, "more(-1)", x -> x.more(-1), -2);
        Edges.refused(c, Edges::lived, "more(2)", x -> x.more(2), -2);
        Edges.refused(c, Edges::lived, "more(least)", x -> x.more(Edges.LEAST), -2);
        Edges.refused(c, Edges::lived, "more(greatest)", x -> x.more(Edges.GREATEST), -2);
        Edges.refused(c, NeverBothDoors::new, "more(2), no lock yet", x -> x.more(2), -2);
    }

    private static void promise18Least() {
        c.sentence(18, "the fewest MINUTES of CYCLES in which one from a PLACE comes by all told PLACES (bits)");
        NeverBothDoors x = new NeverBothDoors();
        for (int from = 0; from < 7; from++) {
            c.due("errands(" + from + ", 0), none told", x.errands(from, 0), 0);
            for (int to = 0; to < 7; to++) {
                c.due("errands(" + from + ", bit " + to + ")", x.errands(from, 1 << to), from == to ? 0 : -9);
            }
        }
        NeverBothDoors row = Checks.burrowOf(ROW_OF_NINES);
        for (int from = 0; from < 7; from++) {
            for (int to = 0; to < 7; to++) {
                c.due("errands(" + from + ", bit " + to + ")", row.errands(from, 1 << to), 9 * Math.abs(from - to));
            }
        }
    }

    private static void promise18All() {
        c.sentence(18, "comes by all told PLACES (bits)");
        NeverBothDoors row = Checks.burrowOf(ROW_OF_NINES);
        for (int from = 0; from < 7; from++) {
            c.due("errands(" + from + ", 127) in a row", row.errands(from, 127), 54 + 9 * Math.min(from, 6 - from));
        }
        // Out and in by each but the last, which is the one of 6.
        c.due("errands(6, 127) in a star", Checks.burrowOf(STAR).errands(6, 127), 2 * 21 - 6);
        c.due("errands(5, 127) in a star", Checks.burrowOf(STAR).errands(5, 127), 6 + 2 * 15 - 5);
        c.due("the most of all", Checks.burrowOf("l0619;l1619;l2619;l3619;l4619;l5619;").errands(0, 127), 9 + 9 * 9);
    }

    private static void promise18None() {
        c.sentence(18, "in whatever order; -9.");
        NeverBothDoors x = Checks.burrowOf("l0111;l1211;l2311;l3411;l4511;");
        c.due("all but the outside", x.errands(0, 63), 5);
        c.due("the outside, too", x.errands(0, 127), -9);
        c.due("from outside", x.errands(6, 1), -9);
        c.due("from outside to nothing else", x.errands(6, 64), 0);
    }

    private static void promise18WhateverOrder() {
        c.sentence(18, "in whatever order");
        NeverBothDoors x = Checks.burrowOf("l3403;l3502;l2301;");
        c.due("the nearest first", x.errands(3, 0b110100), 1 + 1 + 2 + 2 + 3);
        c.due("the place itself told, too", x.errands(3, 0b111100), 9);
        c.due("from one of the ends", x.errands(4, 0b110100), 3 + 1 + 1 + 2);
        c.due("on the way comes by, too", x.errands(2, 0b011000), 4);
    }

    private static void promise18Refusals() {
        c.sentence(18, "ERRANDS; -9. -1 either (bits of none).");
        Edges.refused(c, Edges::lived, "errands(-1, 0)", x -> x.errands(-1, 0), -1);
        Edges.refused(c, Edges::lived, "errands(7, 0)", x -> x.errands(7, 0), -1);
        Edges.refused(c, Edges::lived, "errands(least, 1)", x -> x.errands(Edges.LEAST, 1), -1);
        Edges.refused(c, Edges::lived, "errands(greatest, 1)", x -> x.errands(Edges.GREATEST, 1), -1);
        Edges.refused(c, Edges::lived, "errands(32, 1), a shift round to 0", x -> x.errands(32, 1), -1);
        Edges.refused(c, Edges::lived, "errands(0, 128)", x -> x.errands(0, 128), -1);
        Edges.refused(c, Edges::lived, "errands(0, 129)", x -> x.errands(0, 129), -1);
        Edges.refused(c, Edges::lived, "errands(0, -1)", x -> x.errands(0, -1), -1);
        Edges.refused(c, Edges::lived, "errands(0, least)", x -> x.errands(0, Edges.LEAST), -1);
        Edges.refused(c, Edges::lived, "errands(0, greatest)", x -> x.errands(0, Edges.GREATEST), -1);
        Edges.refused(c, Edges::lived, "errands(7, 128), either", x -> x.errands(7, 128), -1);
    }

    private static void nothingChanges() {
        c.sentence(18, "In mind");
        NeverBothDoors x = Edges.lived();
        x.way(0, 6);
        x.soonest(6);
        x.farthest(0);
        x.more(0);
        x.errands(0, 7);
        Edges.dueSame(c, "ways are in mind", x, Edges.lived());
    }
}
