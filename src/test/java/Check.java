import java.util.function.IntToLongFunction;

/** Collects the answers that are not the ones due, and ends a test by them. */
final class Check {
    private int wrong = 0;
    private String heading = "";

    /** Wrong answers from here on are told with the promise and the document's words that ask for them. */
    void sentence(int promise, String words) {
        heading = "Promise " + promise + ", \"" + words + "\": ";
    }

    void due(String call, long got, long want) {
        if (got != want) {
            wrong++;
            System.out.println(heading + call + " answered " + got + ", due is " + want);
        }
    }

    /** Asks a call once with each of the values, which stand where the call has its question mark. */
    void each(String call, IntToLongFunction ask, long want, int... values) {
        for (int value : values) {
            due(call.replace("?", String.valueOf(value)), ask.applyAsLong(value), want);
        }
    }

    /** Asks for a row of answers, the first of them for 0. */
    void row(String call, IntToLongFunction ask, int... want) {
        for (int i = 0; i < want.length; i++) {
            due(call.replace("?", String.valueOf(i)), ask.applyAsLong(i), want[i]);
        }
    }

    /** Asks that a call that was refused left no trace behind. */
    void unchanged(String call, LetteredRock rock, long digestBefore, int findingBefore) {
        due("digest() behind " + call, rock.digest(), digestBefore);
        due("count(6) behind " + call, rock.count(6), findingBefore);
    }

    void end() {
        if (wrong != 0) {
            System.out.println(wrong + " answers are not as due");
            System.exit(1);
        }
    }
}
