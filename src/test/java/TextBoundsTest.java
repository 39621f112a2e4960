/** Terms 1 and promises 2 to 4: each sentence on the text that names a bound, at it and on both sides of it. */
public final class TextBoundsTest {
    private static final Due due = new Due("TextBoundsTest");
    private static final String FIGURES = "0123456789";

    public static void main(String[] args) {
        lettersOfTheText();
        thingsFirstAndOnce();
        numberOfThings();
        numberOfRules();
        costs();
        sayingsOfEachTown();
        sayingsOfARule();
        sayingsUnlike();
        seenOnce();
        figuresOfNumbers();
        wordsOfOneLetter();
        blanks();
        twoNumbers();
        everyLetterEverywhere();
        theEnd();
        theFirstFault();
        theLeastFault();
        emptyTexts();
        oneTextAfterAnother();
        answersOfTown();
        theLatestTown();
        due.end();
    }

    private static String rules(int count) {
        return "r1 0;".repeat(count);
    }

    private static void lettersOfTheText() {
        due.sentence("THE TOWN is told in a text (240 letters at most)");
        for (int length = 238; length <= 240; length++) {
            due.good("t2;" + " ".repeat(length - 6) + "s1;", 2, 0, 2);
        }
        for (int length = 239; length <= 240; length++) {
            due.bad("t2;" + " ".repeat(length - 5) + "s1", 1, length);
        }
        due.sentence("OUTSIDE, FULL (240).");
        BarrelMoon moon = new BarrelMoon();
        Due.feedAll(moon, "t2;" + " ".repeat(234));
        due.is("the 238th letter", moon.feed('s'), 238);
        due.is("the 239th letter", moon.feed('1'), 239);
        due.is("the 240th letter", moon.feed(' '), 240);
        due.is("the 241st letter", moon.feed(';'), BarrelMoon.FULL);
        due.is("letters", moon.told(2), 240);
        // The ';' that was refused is missing.
        due.is("town", moon.town(), -11);
        due.is("fault", moon.fault(), 240);
        due.is("there is room again", moon.feed('t'), 1);
        due.sentence("One letter (a number 0 .. 255) comes behind THE TEXT: how many it has.");
        for (int letter = 0; letter <= 255; letter++) {
            BarrelMoon one = new BarrelMoon();
            due.is("feed(" + letter + ")", one.feed(letter), 1);
            due.is("letters", one.told(2), 1);
        }
    }

    private static void thingsFirstAndOnce() {
        due.sentence("'t' N ';' (THINGS 0 .. N less 1, N 1 .. 8; first, once)");
        due.bad("r1 0;t1;", 1, 0);
        due.bad("s0;t1;", 1, 0);
        due.bad("1t1;", 1, 0);
        due.bad(",t1;", 1, 0);
        due.bad(";t1;", 1, 0);
        due.bad(" ;", 1, 1);
        due.bad("t1;t1;", 3, 3);
        due.bad("t1;s0;r1 0;t1;", 3, 11);
        due.bad("t1;t9999", 3, 3);
    }

    private static void numberOfThings() {
        due.sentence("'t' N ';' (THINGS 0 .. N less 1, N 1 .. 8; first, once)");
        for (int n = 0; n <= 1001; n++) {
            if (n >= 1 && n <= 8) {
                due.good("t" + n + ";", n, 0, 0);
                due.good("t0" + n + ";", n, 0, 0);
                due.good("t00" + n + ";", n, 0, 0);
                due.bad("t000" + n + ";", 2, 1);
            } else {
                due.bad("t" + n + ";", 2, 1);
            }
        }
    }

    private static void numberOfRules() {
        due.sentence("(10 RULES at most: costs C to give up, 0 .. 99;");
        for (int count = 0; count <= 10; count++) {
            due.good("t1;" + rules(count), 1, count, 0);
        }
        due.sentence("3 't' again, an eleventh 'r' (at it)");
        for (int count = 11; count <= 14; count++) {
            due.bad("t1;" + rules(count), 3, 53);
        }
        due.bad("t1;" + rules(10) + "  r", 3, 55);
        due.bad("t1;" + rules(10) + "r9999", 3, 53);
        due.good("t1;" + rules(10) + "s1;", 1, 10, 2);
        due.bad("t1;" + rules(10) + "s1;r1 0;", 3, 56);
        due.bad("t1;" + rules(9) + "t", 3, 48);
    }

    private static void costs() {
        due.sentence("costs C to give up, 0 .. 99;");
        for (int cost = 0; cost <= 1001; cost++) {
            if (cost <= 99) {
                BarrelMoon moon = Due.townOf("t1;r" + cost + " 1;");
                due.is("cost", moon.rule(0, 0), cost);
                due.is("concludes", moon.rule(0, 1), 1);
            } else {
                due.bad("t1;r" + cost + " 1;", 2, 4);
            }
        }
        due.good("t1;r000 1;", 1, 1, 0);
        due.good("t1;r099 1;", 1, 1, 0);
        due.bad("t1;r0000 1;", 2, 4);
        due.bad("t1;r0099 1;", 2, 4);
    }

    private static void sayingsOfEachTown() {
        due.sentence("(SAYINGS 0 .. 2 times N less 1)");
        for (int n = 1; n <= 8; n++) {
            String town = "t" + n + ";";
            int last = 2 * n - 1;
            for (int s = 0; s <= last; s++) {
                due.good(town + "s" + s + ";", n, 0, 1 << s);
                due.good(town + "r0 " + s + ";", n, 1, 0);
                due.is("Q " + s, Due.townOf(town + "r0 " + s + ";").rule(0, 1), s);
                int other = s == 0 ? 1 : 0;
                String rule = town + "r0 " + other + "," + s + ";";
                due.is("the S of " + rule, Due.townOf(rule).rule(0, 2), 1 << s);
            }
            for (int s : new int[] {last + 1, last + 2, 17, 31, 32, 99, 100, 255, 256, 999}) {
                due.bad(town + "s" + s + ";", 2, 4);
                due.bad(town + "r0 " + s + ";", 2, 6);
                due.bad(town + "r0 0," + s + ";", 2, 8);
                due.bad(town + "r0 0,1," + s + ";", 2, 10);
            }
        }
    }

    private static void sayingsOfARule() {
        due.sentence("concludes SAYING Q, if all SAYINGS S are so, 0 to 3 of them");
        String rule = "t8;r7 15";
        for (int count = 0; count <= 3; count++) {
            BarrelMoon moon = Due.townOf(rule + ";");
            due.is(count + " sayings: Q", moon.rule(0, 1), 15);
            due.is(count + " sayings: S", moon.rule(0, 2), (1 << count) - 1);
            rule += "," + count;
        }
        due.sentence("a fourth S: at its ','");
        due.bad("t8;r7 15,0,1,2,3;", 1, 14);
        due.bad("t8;r7 15,0,1,2,", 1, 14);
        due.bad("t8;r7 15,0,1,2 , 3;", 1, 15);
        // The fault is at the ',' and so ahead of all that the fourth could have besides.
        due.bad("t8;r7 15,0,1,2,15;", 1, 14);
        due.bad("t8;r7 15,0,1,2,16;", 1, 14);
        due.bad("t8;r7 15,0,1,2,0000;", 1, 14);
    }

    private static void sayingsUnlike() {
        due.sentence("4 an S that is Q, or was told in this RULE; an S SEEN already (at it).");
        due.bad("t8;r7 15,15;", 4, 9);
        due.bad("t8;r7 15,0,15;", 4, 11);
        due.bad("t8;r7 15,0,1,15;", 4, 13);
        due.bad("t8;r7 0,0;", 4, 8);
        due.bad("t8;r7 0, 000;", 4, 9);
        due.bad("t8;r7 15,0,0;", 4, 11);
        due.bad("t8;r7 15,0,1,0;", 4, 13);
        due.bad("t8;r7 15,0,1,1;", 4, 13);
        due.bad("t8;r7 15,14, 014;", 4, 13);
        // In this RULE, not in another; and a DENIAL is another SAYING.
        due.good("t8;r7 15,0;r7 15,0;r7 0,15;s0;s15;", 8, 3, 1 | 1 << 15);
        due.good("t1;r7 0,1;r7 1,0;", 1, 2, 0);
        due.good("t2;r7 0,2,3,1;", 2, 1, 0);
    }

    private static void seenOnce() {
        due.sentence("'s' S ';' (SAYING S is SEEN; each once)");
        StringBuilder all = new StringBuilder("t8;");
        int seen = 0;
        for (int s = 0; s < 16; s++) {
            all.append('s').append(s).append(';');
            seen |= 1 << s;
            due.good(all.toString(), 8, 0, seen);
        }
        for (int s = 0; s < 16; s++) {
            due.bad(all + "s" + s + ";", 4, all.length() + 1);
            due.bad("t8;s" + s + ";s" + s + ";", 4, s < 10 ? 7 : 8);
        }
    }

    private static void figuresOfNumbers() {
        due.sentence("NUMBERS have one to three figures");
        due.bad("t;", 1, 1);
        due.bad("t1;r 0;", 1, 6);
        due.bad("t1;s;", 1, 4);
        due.bad("t1;r0 0,;", 1, 8);
        due.good("t1;s1;", 1, 0, 2);
        due.good("t1;s01;", 1, 0, 2);
        due.good("t1;s001;", 1, 0, 2);
        due.sentence("2 a NUMBER of four figures or more, or out of its bounds (at its first).");
        due.bad("t1;s0001;", 2, 4);
        due.bad("t1;s00001;", 2, 4);
        due.bad("t1;s 0001;", 2, 5);
        due.bad("t1;r0001 1;", 2, 4);
        due.bad("t1;r1 0001;", 2, 6);
        due.bad("t1;r1 0,0001;", 2, 8);
        due.bad("t0001;", 2, 1);
        // As many figures as would come round to 1 in 32 or in 64 bits.
        due.bad("t4294967297;", 2, 1);
        due.bad("t18446744073709551617;", 2, 1);
        due.bad("t" + "9".repeat(239), 2, 1);
        // With the text's end behind it a NUMBER out of its bounds is a fault all the same.
        due.bad("t9", 2, 1);
        due.bad("t1;s2", 2, 4);
        due.bad("t1;r100", 2, 4);
    }

    private static void wordsOfOneLetter() {
        due.sentence("a word is one letter");
        due.bad("tt1;", 1, 1);
        due.bad("things1;", 1, 1);
        due.bad("t1;ss0;", 1, 4);
        due.bad("t1;rr1 0;", 1, 4);
        due.bad("t1;;", 1, 3);
        due.bad("t1;r1 0,,1;", 1, 8);
        due.bad("T1;", 1, 0);
        due.bad("t1;S0;", 1, 3);
        due.bad("t1;R1 0;", 1, 3);
    }

    private static void blanks() {
        due.sentence("blanks (32) may stand anywhere but within NUMBERS");
        String[] parts = {"t", "8", ";", "r", "12", " ", "15", ",", "0", ",", "1", ",", "14", ";", "s", "10", ";"};
        for (int at = 0; at <= parts.length; at++) {
            for (int blanks = 1; blanks <= 2; blanks++) {
                StringBuilder text = new StringBuilder();
                for (int i = 0; i <= parts.length; i++) {
                    text.append(i == at ? " ".repeat(blanks) : "").append(i < parts.length ? parts[i] : "");
                }
                due.good(text.toString(), 8, 1, 1 << 10);
                BarrelMoon moon = Due.townOf(text.toString());
                due.is("C of " + text, moon.rule(0, 0), 12);
                due.is("Q of " + text, moon.rule(0, 1), 15);
                due.is("S of " + text, moon.rule(0, 2), Due.set(0, 1, 14));
            }
        }
        due.bad("t8;s1 0;", 1, 6);
        due.bad("t8;r1 2 15;", 1, 8);
        due.bad("t8;r12 1 5;", 1, 9);
        due.bad("t8;r12 5,1 4;", 1, 11);
        // Only the letter 32 is a blank.
        for (int letter : new int[] {0, 9, 10, 11, 12, 13, 31, 33, 133, 160, 255}) {
            due.bad((char) letter + "t8;", 1, 0);
            due.bad("t" + (char) letter + "8;", 1, 1);
            due.bad("t8;r1" + (char) letter + "0;", 1, 5);
            due.bad("t8;" + (char) letter, 1, 3);
        }
    }

    private static void twoNumbers() {
        due.sentence("two NUMBERS side by side need one");
        due.bad("t8;r12;", 1, 6);
        due.good("t8;r1 2;", 8, 1, 0);
        due.is("C", Due.townOf("t8;r1 2;").rule(0, 0), 1);
        due.is("Q", Due.townOf("t8;r1 2;").rule(0, 1), 2);
        due.is("C", Due.townOf("t8;r12 3;").rule(0, 0), 12);
        due.bad("t8;r123;", 2, 4);
    }

    /** Of all letters 0 .. 255 behind each beginning just those that may stand there have no fault 1 there. */
    private static void everyLetterEverywhere() {
        due.sentence("1 it cannot stand there (a letter that is no word, another word first than 't'; a fourth S: at its ',').");
        behind("", "t ");
        behind("  ", "t ");
        behind("t", FIGURES + " ");
        behind("t ", FIGURES + " ");
        behind("t1", FIGURES + " ;");
        behind("t1 ", " ;");
        behind("t1;", "rst ");
        behind("t1; ", "rst ");
        behind("t1;r", FIGURES + " ");
        behind("t1;r ", FIGURES + " ");
        behind("t1;r1", FIGURES + " ");
        behind("t1;r1 ", FIGURES + " ");
        behind("t1;r1 0", FIGURES + " ,;");
        behind("t1;r1 0 ", " ,;");
        behind("t1;r1 0,", FIGURES + " ");
        behind("t1;r1 0,1", FIGURES + " ,;");
        behind("t2;r1 0,1 ", " ,;");
        behind("t2;r1 0,1,", FIGURES + " ");
        behind("t2;r1 0,1,2", FIGURES + " ,;");
        behind("t2;r1 0,1,2,", FIGURES + " ");
        behind("t2;r1 0,1,2,3", FIGURES + " ;");
        behind("t2;r1 0,1,2,3 ", " ;");
        behind("t1;r1 0;", "rst ");
        behind("t1;s", FIGURES + " ");
        behind("t1;s ", FIGURES + " ");
        behind("t1;s0", FIGURES + " ;");
        behind("t1;s0 ", " ;");
        behind("t1;s0;", "rst ");
        behind("t1;" + rules(10), "rst ");
    }

    private static void behind(String beginning, String mayStand) {
        for (int letter = 0; letter <= 255; letter++) {
            String text = beginning + (char) letter;
            if (mayStand.indexOf(letter) < 0) {
                due.bad(text, 1, beginning.length());
            } else {
                BarrelMoon moon = new BarrelMoon();
                Due.feedAll(moon, text);
                boolean faulty = moon.town() == -11;
                due.holds(text + " may go on so", !faulty || moon.fault() == text.length());
            }
        }
    }

    private static void theEnd() {
        due.sentence("(the end at the text's length)");
        String text = "t2;r15 2,0,3;s0;";
        for (int length = 1; length <= text.length(); length++) {
            for (int blanks = 0; blanks <= 3; blanks++) {
                String cut = text.substring(0, length) + " ".repeat(blanks);
                switch (length) {
                    case 3 -> due.good(cut, 2, 0, 0);
                    case 13 -> due.good(cut, 2, 1, 0);
                    case 16 -> due.good(cut, 2, 1, 1);
                    default -> due.bad(cut, 1, cut.length());
                }
            }
        }
        due.bad("t" + " ".repeat(239), 1, 240);
        due.bad(" ".repeat(239) + "t", 1, 240);
        due.bad(" ".repeat(239) + "x", 1, 239);
        due.good(" ".repeat(237) + "t1;", 1, 0, 0);
    }

    private static void theFirstFault() {
        due.sentence("FAULTS, at the first letter that has one");
        due.bad("t1;s0;s0;t", 4, 7);
        due.bad("t1;s0;s0;x", 4, 7);
        due.bad("t1;s0;s0x", 4, 7);
        due.bad("t1;t;x", 3, 3);
        due.bad("t1;t;s9;", 3, 3);
        due.bad("t1;s2;x", 2, 4);
        due.bad("t1;s2x", 2, 4);
        due.bad("t9;t9;", 2, 1);
        due.bad("t1;x;s2;", 1, 3);
        due.bad("t1;r1 0,0,2;", 4, 8);
        due.bad("t1;r1 0,2,0;", 2, 8);
        due.bad("t1;r100 2;", 2, 4);
        due.bad("t1;r1 2,2;", 2, 6);
        due.bad("t1;" + rules(9) + "r1 0,0;r1 0;", 4, 53);
    }

    private static void theLeastFault() {
        due.sentence("of these the least");
        // 1 ahead of 2: a NUMBER out of its bounds where none can stand.
        due.bad("9999", 1, 0);
        due.bad("t1 9999;", 1, 3);
        due.bad("t1;9999", 1, 3);
        due.bad("t1;s0 9999;", 1, 6);
        due.bad("t1;r1 0 9999;", 1, 8);
        // 1 ahead of 3: 't' again and an eleventh 'r' where none can stand.
        due.bad("t1t", 1, 2);
        due.bad("t1;st", 1, 4);
        due.bad("t1;rt", 1, 4);
        due.bad("t1;" + rules(9) + "r1 0r", 1, 52);
        due.bad("t1;" + rules(10) + "s0r", 1, 55);
        // 2 ahead of 4: four figures of a SAYING that was told already.
        due.bad("t1;s0;s0000;", 2, 7);
        due.bad("t1;r1 0,0000;", 2, 8);
        due.bad("t1;r1 0,1,0001;", 2, 10);
    }

    private static void emptyTexts() {
        due.sentence("An empty text: no TOWN.");
        due.good("", 0, 0, 0);
        BarrelMoon moon = Due.townOf("t8;r1 2;s3;");
        due.is("town of nothing", moon.town(), 0);
        due.is("no fault", moon.fault(), BarrelMoon.NONE);
        due.is("no things", moon.told(0), 0);
        due.is("no rules", moon.told(1), 0);
        due.is("nothing seen", moon.told(3), 0);
        due.is("no town", moon.debate(), BarrelMoon.NOT);
        due.sentence("blanks (32) may stand anywhere but within NUMBERS");
        due.good(" ", 0, 0, 0);
        due.good(" ".repeat(240), 0, 0, 0);
    }

    /** Nothing of an earlier text is left in a later one, be it good, faulty or empty. */
    private static void oneTextAfterAnother() {
        due.sentence("THE TEXT (it is empty then, with a FAULT, too) becomes THE TOWN");
        String[] texts = {"t8;r9 15;r8 14;s13;s12;", "t2;r7 3,0;s1;", "t1;", "", "t3;r1 0;s0;s0;", "t9;", "t4;s5;"};
        int[] things = {8, 2, 1, 0, -1, -1, 4};
        int[] rules = {2, 1, 0, 0, -14, -12, 0};
        int[] seen = {Due.set(12, 13), Due.set(1), 0, 0, 0, 0, Due.set(5)};
        for (int order = 0; order < 7 * 7 * 7; order++) {
            BarrelMoon moon = new BarrelMoon();
            int n = 0;
            int so = 0;
            for (int i : new int[] {order % 7, order / 7 % 7, order / 49}) {
                Due.feedAll(moon, texts[i]);
                due.is("town of " + texts[i], moon.town(), rules[i]);
                due.is("letters", moon.told(2), 0);
                n = things[i] < 0 ? n : things[i];
                so = things[i] < 0 ? so : seen[i];
                due.is("things behind " + texts[i], moon.told(0), n);
                due.is("seen behind " + texts[i], moon.told(3), so);
                due.holds("a debate behind " + texts[i], n > 0 ? moon.debate() >= 0 : moon.debate() == BarrelMoon.NOT);
            }
        }
    }

    private static void answersOfTown() {
        due.sentence("how many RULES; -10 less the number of its FAULT (all else is as it was)");
        String[] texts = {"x", "t9;", "t1;t", "t1;s0;s0;"};
        int[] letters = {0, 1, 3, 7};
        for (int i = 0; i < texts.length; i++) {
            String text = texts[i];
            BarrelMoon moon = full();
            Due.feedAll(moon, text);
            due.is("town of " + text, moon.town(), -11 - i);
            due.is("fault of " + text, moon.fault(), letters[i]);
            due.is("letters behind " + text, moon.told(2), 0);
            String after = Due.look(moon);
            String before = Due.look(full());
            due.holds("all else but the fault is as it was behind " + text,
                    after.substring(0, after.lastIndexOf(' ')).equals(before.substring(0, before.lastIndexOf(' '))));
            due.is("it can be undone still", moon.undo(), 1);
            due.is("seen as ahead of it", moon.told(3), Due.set(0, 2));
            due.is("image 0 is there still", moon.goBack(0), 1);
            due.is("its seed", moon.seed(0), 11);
            due.is("image 1 is there still", moon.goBack(1), 1);
            due.is("its seed", moon.seed(0), 22);
        }
    }

    private static BarrelMoon full() {
        BarrelMoon moon = Due.townOf("t3;r5 2,0;r4 4;s0;");
        moon.seed(11);
        moon.debate();
        moon.keep(0);
        moon.seed(22);
        moon.forbid(1, true);
        moon.keep(1);
        moon.seed(33);
        moon.see(2, true);
        moon.see(5, true);
        moon.ask(1, 2, true);
        moon.write(2, 0);
        return moon;
    }

    private static void theLatestTown() {
        due.sentence("The letter of the FAULT of the latest town(); NONE.");
        BarrelMoon moon = new BarrelMoon();
        due.is("no town() yet", moon.fault(), BarrelMoon.NONE);
        Due.feedAll(moon, "t1;s5;");
        due.is("not read yet", moon.fault(), BarrelMoon.NONE);
        due.is("town", moon.town(), -12);
        due.is("its fault", moon.fault(), 4);
        due.is("told again", moon.fault(), 4);
        Due.feedAll(moon, "x");
        due.is("not read yet", moon.fault(), 4);
        due.is("town", moon.town(), -11);
        due.is("its fault", moon.fault(), 0);
        Due.feedAll(moon, "t1;");
        due.is("a good one", moon.town(), 0);
        due.is("no fault", moon.fault(), BarrelMoon.NONE);
        Due.feedAll(moon, "t");
        due.is("town", moon.town(), -11);
        due.is("its fault", moon.fault(), 1);
        due.is("an empty one", moon.town(), 0);
        due.is("no fault", moon.fault(), BarrelMoon.NONE);
    }
}
