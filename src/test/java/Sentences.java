import java.util.ArrayList;
import java.util.List;
import java.util.function.Supplier;
import java.util.function.ToLongFunction;

/** Tests by sentence: each names a part of the document, and the words there which it would see broken. */
final class Sentences {
    record Quote(String part, String words) { }

    private static final int MOST_TOLD = 30;

    private final String test;
    private final boolean runs;
    private final List<Quote> quotes = new ArrayList<>();
    private String part = "";
    private String words = "";
    private int looks;
    private int wrong;
    private int held;
    private int broken;
    private int told;

    Sentences(String test) {
        this(test, true);
    }

    private Sentences(String test, boolean runs) {
        this.test = test;
        this.runs = runs;
    }

    /** One that runs no test and only notes what they quote. */
    static Sentences listing() {
        return new Sentences("", false);
    }

    List<Quote> quotes() {
        return quotes;
    }

    /** The part of the document of all tests that follow. */
    void in(String newPart) {
        part = newPart;
    }

    /** A test of its own for a sentence, told by its words in the document. */
    void holds(String newWords, Runnable body) {
        quotes.add(new Quote(part, newWords));
        if (!runs) {
            return;
        }
        words = newWords;
        looks = 0;
        wrong = 0;
        try {
            body.run();
        } catch (RuntimeException | Error e) {
            tell("threw " + e);
        }
        if (looks == 0) {
            tell("nothing was looked at");
        }
        if (wrong == 0) {
            held++;
        } else {
            broken++;
        }
    }

    private void tell(String what) {
        wrong++;
        told++;
        if (told <= MOST_TOLD) {
            System.out.println(test + ": " + part + ": '" + words + "': " + what);
        }
    }

    void is(String call, long got, long want) {
        looks++;
        if (got != want) {
            tell(call + " answered " + got + ", due is " + want);
        }
    }

    void are(String calls, long[] got, long... want) {
        is(calls + ": how many", got.length, want.length);
        for (int i = 0; i < Math.min(got.length, want.length); i++) {
            is(calls + " [" + i + "]", got[i], want[i]);
        }
    }

    /** A call that is refused, and leaves all as it was. */
    void refuses(Supplier<TurnBack> made, long want, String call, ToLongFunction<TurnBack> calling) {
        TurnBack with = made.get();
        is(call, calling.applyAsLong(with), want);
        same(call + " changes nothing", with, made.get());
    }

    void refuses(long want, String call, ToLongFunction<TurnBack> calling) {
        refuses(Busy::house, want, call, calling);
    }

    /** A call that only asks: whatever it answers, all is as it was. */
    void asks(String call, ToLongFunction<TurnBack> calling) {
        TurnBack with = Busy.house();
        long first = calling.applyAsLong(with);
        is(call + ", asked again", calling.applyAsLong(with), first);
        same(call + " changes nothing", with, Busy.house());
    }

    /** That two objects answer alike from now on. */
    void same(String what, TurnBack one, TurnBack other) {
        long[] ones = Busy.probe(one);
        long[] others = Busy.probe(other);
        int at = -1;
        for (int i = ones.length - 1; i >= 0; i--) {
            at = ones[i] == others[i] ? at : i;
        }
        is(what + ": the first look that is otherwise", at, -1);
    }

    void end() {
        System.out.println(test + ": " + held + " sentences hold, " + broken + " do not");
        if (broken != 0 || held == 0) {
            System.exit(1);
        }
    }
}
