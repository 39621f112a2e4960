import java.io.IOException;
import java.nio.file.Files;
import java.nio.file.Path;

/** Counts answers that are not as due, and helps to write short tests. */
final class Due {
    private static final Path DOCUMENT = Path.of("../shared/DOC.md");

    private final String test;
    private final String document = readDocument();
    private String sentence = "";
    private int wrong = 0;
    private int asked = 0;

    Due(String test) {
        this.test = test;
    }

    /** Blanks and line ends are one blank each, so that a sentence over two lines is found, too. */
    private static String readDocument() {
        try {
            return Files.readString(DOCUMENT).replaceAll("\\s+", " ");
        } catch (IOException gone) {
            return null;
        }
    }

    /** The words of the document that ask for the next answers; they have to stand in it, letter by letter. */
    void sentence(String words) {
        sentence = "";
        holds("the document says '" + words + "'", document == null || document.contains(words));
        sentence = " ['" + words + "']";
    }

    void is(String call, long got, long want) {
        asked++;
        if (got != want) {
            wrong++;
            System.out.println(test + ": " + call + " answered " + got + ", due is " + want + sentence);
        }
    }

    void holds(String what, boolean so) {
        is(what, so ? 1 : 0, 1);
    }

    /** Ends the program with exit code 1 if one answer was wrong. */
    void end() {
        System.out.println(test + ": " + (asked - wrong) + " of " + asked + " answers as due");
        if (wrong != 0) {
            System.exit(1);
        }
    }

    static void feedAll(BarrelMoon moon, String text) {
        for (int i = 0; i < text.length(); i++) {
            moon.feed(text.charAt(i));
        }
    }

    /** A new object with this town. */
    static BarrelMoon townOf(String text) {
        BarrelMoon moon = new BarrelMoon();
        feedAll(moon, text);
        int rules = moon.town();
        if (rules < 0) {
            throw new IllegalStateException("the test's own text has a fault: " + text);
        }
        return moon;
    }

    /** A text that becomes a town of so much, without a fault. */
    void good(String text, int things, int rules, int seen) {
        BarrelMoon moon = new BarrelMoon();
        feedAll(moon, text);
        is("town of " + text, moon.town(), rules);
        is("fault of " + text, moon.fault(), BarrelMoon.NONE);
        is("things of " + text, moon.told(0), things);
        is("rules of " + text, moon.told(1), rules);
        is("seen of " + text, moon.told(3), seen);
        is("letters behind " + text, moon.told(2), 0);
    }

    /** A text whose fault is of this kind, at this letter. */
    void bad(String text, int kind, int at) {
        BarrelMoon moon = new BarrelMoon();
        feedAll(moon, text);
        is("town of " + text, moon.town(), -10 - kind);
        is("fault of " + text, moon.fault(), at);
        is("no town by " + text, moon.told(0), 0);
        is("letters behind " + text, moon.told(2), 0);
    }

    static int set(int... bits) {
        int set = 0;
        for (int bit : bits) {
            set |= 1 << bit;
        }
        return set;
    }

    /** All that can be looked at without changing anything, so that two states can be compared. */
    static String look(BarrelMoon moon) {
        StringBuilder seen = new StringBuilder();
        for (int what = 0; what <= 12; what++) {
            seen.append(moon.told(what)).append(' ');
        }
        for (int r = 0; r < moon.told(1); r++) {
            for (int what = 0; what <= 3; what++) {
                seen.append(moon.rule(r, what)).append(' ');
            }
        }
        for (int what = 0; what <= 2; what++) {
            seen.append(moon.believed(what)).append(' ');
        }
        return seen.append(moon.judge()).append(' ').append(moon.fault()).toString();
    }
}
