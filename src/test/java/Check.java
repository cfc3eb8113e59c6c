/** Collects the answers that are not the ones due, and ends a test by them. */
final class Check {
    private int wrong = 0;

    void due(String call, long got, long want) {
        if (got != want) {
            wrong++;
            System.out.println(call + " answered " + got + ", due is " + want);
        }
    }

    /** Asks that a call that was refused left no trace behind. */
    void unchanged(String call, LetteredRock rock, long digestBefore, int findingBefore) {
        due("digest() behind " + call, rock.digest(), digestBefore);
        due("count(6) behind " + call, rock.count(6), findingBefore);
    }

    void end() {
        if (wrong != 0) {
            System.out.println(wrong + " answers are not as due");
            System.exit(1);
        }
    }
}
