import java.util.function.Function;
import java.util.function.Supplier;

/**
 * Makes sure that a call changes nothing: two objects have the same calls, one of them this one besides, and
 * both are then looked at to the bottom.
 */
final class Twins {
    interface Call {
        int on(BarrelMoon moon);
    }

    private final Due due;
    private final Supplier<BarrelMoon> make;
    private final String state;

    Twins(Due due, String state, Supplier<BarrelMoon> make) {
        this.due = due;
        this.state = state;
        this.make = make;
    }

    /** The call changes nothing, whatever it answers. */
    void alike(String name, Call call) {
        alike(name, call, call.on(make.get()));
    }

    /** The call answers this and changes nothing. */
    void alike(String name, Call call, int want) {
        String where = state + ": " + name;
        compare(where, call, want, "what is told", Twins::toldAndSeed);
        compare(where, call, want, "what can be undone", Twins::undoAll);
        compare(where, call, want, "image 0", moon -> goBackTo(moon, 0));
        compare(where, call, want, "image 1", moon -> goBackTo(moon, 1));
        compare(where, call, want, "the text", Twins::readText);
        compare(where, call, want, "the book", Twins::readBook);
        compare(where, call, want, "what was asked", Twins::askOn);
    }

    /** Each look changes what it looks at, so each has two new objects. */
    private void compare(String where, Call call, int want, String what, Function<BarrelMoon, String> look) {
        BarrelMoon with = make.get();
        due.is(where, call.on(with), want);
        String after = look.apply(with);
        String without = look.apply(make.get());
        due.holds(where + " leaves " + what + " as it was: " + without + " became " + after, after.equals(without));
    }

    private static String toldAndSeed(BarrelMoon moon) {
        return Due.look(moon) + " " + moon.seed(0);
    }

    private static String now(BarrelMoon moon) {
        StringBuilder so = new StringBuilder();
        for (int what = 3; what <= 6; what++) {
            so.append(moon.told(what)).append(' ');
        }
        return so.toString();
    }

    private static String undoAll(BarrelMoon moon) {
        StringBuilder past = new StringBuilder();
        for (int i = 0; i < 22; i++) {
            past.append(moon.undo()).append(": ").append(now(moon));
        }
        return past.toString();
    }

    private static String goBackTo(BarrelMoon moon, int i) {
        return moon.goBack(i) + ": " + now(moon) + moon.seed(0);
    }

    private static String readText(BarrelMoon moon) {
        return moon.town() + " " + Due.look(moon);
    }

    private static String readBook(BarrelMoon moon) {
        StringBuilder wrong = new StringBuilder();
        for (int s = 0; s < 2 * moon.told(0); s++) {
            wrong.append(moon.judge()).append(' ');
            moon.see(s, true);
            wrong.append(moon.judge()).append(' ');
            moon.see(s, false);
        }
        return wrong.toString();
    }

    private static String askOn(BarrelMoon moon) {
        StringBuilder answers = new StringBuilder();
        for (int s = 0; s < 2 * moon.told(0); s++) {
            answers.append(moon.ask(1 << s, s, true)).append(' ');
            answers.append(moon.believed(0)).append(' ').append(moon.believed(1)).append(' ');
        }
        return answers.append(moon.askNext()).toString();
    }
}
