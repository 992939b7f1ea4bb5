/** Promises 1 to 3: a new object, letter, burrow. */
public final class LettersTest {
    private static final Checks c = new Checks();

    public static void main(String[] args) {
        aNewObject();
        letters();
        lettersFull();
        formFaults();
        senseFaults();
        formAheadOfSense();
        nothingComesWithAFault();
        allComesWithout();
        noRoomForMore();
        severalBurrows();
        c.end();
    }

    private static void aNewObject() {
        NeverBothDoors x = new NeverBothDoors();
        for (int room = 0; room < 6; room++) {
            c.due("new room " + room, x.room(room, 0), 100);
            c.due("new leak " + room, x.room(room, 1), 0);
            c.due("new people there " + room, x.room(room, 2), 0);
            c.due("new breath there " + room, x.room(room, 3), 0);
        }
        c.due("new locks", x.count(0), 0);
        c.due("new people", x.count(1), 0);
        c.due("new minute", x.count(2), 0);
        c.due("new air", x.count(3), 600);
        c.due("new leaks", x.count(4), 0);
        c.due("new gasps", x.count(5), 0);
        c.due("new row", x.count(6), 0);
        c.due("new letters", x.count(7), 0);
        c.due("no suits", x.fitted(), 0);
        c.due("no image", x.on(), -3);
        c.dueRefusals("new", x, 0, 0, 1, 0, 0, 0);
    }

    private static void letters() {
        NeverBothDoors x = new NeverBothDoors();
        c.due("letter(0)", x.letter(0), 1);
        c.due("letter(255)", x.letter(255), 2);
        c.due("letter(-1)", x.letter(-1), -4);
        c.due("letter(256)", x.letter(256), -6);
        c.due("letter(least)", x.letter(Integer.MIN_VALUE), -4);
        c.due("letter(greatest)", x.letter(Integer.MAX_VALUE), -6);
        c.due("letters kept", x.count(7), 2);
        c.dueRefusals("letters", x, 0, 0, 0, 2, 0, 2);
        c.due("a sign below 32", x.burrow(), -1000);
        c.due("letters no more", x.count(7), 0);
        c.due("letter again", x.letter('r'), 1);
    }

    private static void lettersFull() {
        NeverBothDoors x = new NeverBothDoors();
        for (int i = 1; i <= 96; i++) {
            c.due("letter " + i, x.letter("k12;".charAt((i - 1) % 4)), i);
        }
        c.due("letter 97", x.letter('k'), -6);
        c.due("letter 97 below", x.letter(-1), -4);
        c.due("letter 97 above", x.letter(256), -6);
        c.due("letters full", x.count(7), 96);
        c.due("24 statements", x.burrow(), 24);
        c.due("leak told", x.room(1, 1), 2);
        c.due("letters behind a burrow", x.count(7), 0);
        for (int i = 0; i < 95; i++) {
            x.letter("k12;".charAt(i % 4));
        }
        c.due("the last lacks its end", x.burrow(), -1095);
    }

    private static void fault(String text, int want) {
        NeverBothDoors x = new NeverBothDoors();
        c.due("burrow of " + text, Checks.told(x, text), want);
        c.due("letters behind " + text, x.count(7), 0);
        c.dueRefusals("burrow of " + text, x, 0, 0, 0, 0, 0, 0);
    }

    private static void formFaults() {
        fault("", -1000);
        fault(";", -1000);
        fault("R0,1;", -1000);
        fault(" k00;", -1000);
        fault("r", -1001);
        fault("rx", -1001);
        fault("r0", -1002);
        fault("r01;", -1002);
        fault("r0,", -1003);
        fault("r0,;", -1003);
        fault("r0,1", -1004);
        fault("r0,1,", -1004);
        fault("r0,12", -1005);
        fault("r0,12r", -1005);
        fault("r0,123", -1006);
        fault("r0,1234;", -1006);
        fault("k", -1001);
        fault("k;", -1001);
        fault("k0", -1002);
        fault("k0,", -1002);
        fault("k00", -1003);
        fault("k000;", -1003);
        fault("l", -1001);
        fault("l0", -1002);
        fault("l01", -1003);
        fault("l011", -1004);
        fault("l0111", -1005);
        fault("l01111;", -1005);
        fault("l01,1;", -1003);
        fault("p", -1001);
        fault("px01,0;", -1001);
        fault("pP01,0;", -1001);
        fault("p0", -1001);
        fault("pp", -1002);
        fault("ppp", -1002);
        fault("pp0", -1003);
        fault("pp0,", -1003);
        fault("pp01", -1004);
        fault("pp011", -1004);
        fault("pp01,", -1005);
        fault("pp01,;", -1005);
        fault("pp01,1", -1006);
        fault("pp01,12", -1007);
        fault("pp01,123;", -1007);
        fault("s", -1001);
        fault("sa", -1001);
        fault("s1", -1002);
        fault("s11", -1003);
        fault("s11,", -1003);
        fault("k00;x", -1004);
        fault("k00;;", -1004);
        fault("k00;k", -1005);
        fault("k00;r0,", -1007);
    }

    private static void senseFaults() {
        fault("r6,0;", -2000);
        fault("r9,999;", -2000);
        fault("k60;", -2000);
        fault("k99;", -2000);
        fault("l7011;", -2000);
        fault("l0711;", -2000);
        fault("l3311;", -2000);
        fault("l6611;", -2000);
        fault("l0110;", -2000);
        fault("pp71,0;", -2000);
        fault("pp00,0;", -2000);
        fault("pp06,0;", -2000);
        fault("s01;", -2000);
        fault("s61;", -2000);
        fault("s16;", -2000);
        fault("k00;k60;", -2004);
        fault("r0,1;pp01,0;s11;l0110;k60;", -2016);
    }

    private static void formAheadOfSense() {
        fault("r6,0;x", -1005);
        fault("k60;s16;l0", -1010);
    }

    private static void nothingComesWithAFault() {
        NeverBothDoors x = new NeverBothDoors();
        c.due("a fault behind all", Checks.told(x, "r0,7;k15;l0111;pp01,9;s12;k60;"), -2026);
        c.due("air not told", x.room(0, 0), 100);
        c.due("leak not told", x.room(1, 1), 0);
        c.due("no lock", x.count(0), 0);
        c.due("nobody", x.count(1), 0);
        c.due("no form", Checks.told(x, "s15;k60"), -1007);
        c.due("one", Checks.told(x, "pp01,9;"), 1);
        c.due("no suits told", x.fitted(), 0);
    }

    private static void allComesWithout() {
        NeverBothDoors x = new NeverBothDoors();
        c.due("all", Checks.told(x, "r0,7;r5,999;r1,007;r2,00;k15;k09;l6029;l1201;pw65,99;pc01,05;s15;s50;"), 12);
        c.due("air 0", x.room(0, 0), 7);
        c.due("air 5", x.room(5, 0), 999);
        c.due("air 1", x.room(1, 0), 7);
        c.due("air 2", x.room(2, 0), 0);
        c.due("air 3", x.room(3, 0), 100);
        c.due("leak 1", x.room(1, 1), 5);
        c.due("leak 0", x.room(0, 1), 9);
        c.due("locks", x.count(0), 2);
        c.due("lesser", x.lock(0, 0), 0);
        c.due("other", x.lock(0, 1), 6);
        c.due("size", x.lock(0, 2), 2);
        c.due("cycle", x.lock(0, 3), 9);
        c.due("size 1", x.lock(1, 2), 0);
        c.due("suit", x.person(0, 3), 99);
        c.due("suit 1", x.person(1, 3), 5);
        c.due("minute", x.count(2), 0);
        c.due("suits: one of fit 1", x.fitted(), 1);
        c.due("told twice", Checks.told(x, "r0,1;r0,2;k00;k08;s10;s11;"), 6);
        c.due("the later air", x.room(0, 0), 2);
        c.due("the later leak", x.room(0, 1), 8);
    }

    private static void noRoomForMore() {
        fault("l0111;l0111;l0111;l0111;l0111;l0111;l0111;l0111;", -2042);
        fault("pp01,0;pp01,0;pp01,0;pp01,0;pp01,0;pp01,0;", -2035);
        NeverBothDoors x = new NeverBothDoors();
        c.due("7 locks", Checks.told(x, "l0111;l0111;l0111;l0111;l0111;l0111;l0111;"), 7);
        c.due("5 people", Checks.told(x, "pp01,0;pp01,0;pp01,0;pp01,0;pp01,0;"), 5);
        c.due("a lock more", Checks.told(x, "k00;l0111;"), -2004);
        c.due("one more", Checks.told(x, "k00;pp01,0;"), -2004);
        c.due("the 7th", x.lock(6, 3), 1);
        c.due("the 5th", x.person(4, 2), 1);
    }

    private static void severalBurrows() {
        NeverBothDoors x = Checks.burrowOf("pp01,0;l0123;s11;");
        c.due("another", Checks.told(x, "pc65,7;l5645;"), 2);
        c.due("people", x.count(1), 2);
        c.due("locks", x.count(0), 2);
        c.due("kind of the second", x.person(1, 0), 1);
        c.due("cycle of the second", x.lock(1, 3), 5);
        c.due("kind of the first", x.person(0, 0), 0);
        c.due("suits stay", x.fitted(), 1);
    }
}
