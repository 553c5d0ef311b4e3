/** Promises 10 and 11 and "Terms": the edges of the things, their ranks and their values. */
public final class ThingEdgesTest {
    private static final Bench BENCH = new Bench("ThingEdgesTest");
    private static final int LOWEST = Integer.MIN_VALUE;
    private static final int HIGHEST = Integer.MAX_VALUE;

    public static void main(String[] args) {
        defaultsAtFirst();
        ranksAtFirst();
        firstRankThatIsNotNone();
        noneLeft();
        valuesOfInts();
        valuesOfBinaries();
        noSuchThing();
        noSuchRank();
        noneOfTheDefault();
        valueDoesNotMatterForNone();
        noneOfNone();
        refusedCallsChangeNothing();
        thingsAreApart();
        presentOfNoThing();
        BENCH.end();
    }

    private static Station station() {
        return new Station(3, 7);
    }

    private static int[] readDefault(Station x, int thing) {
        int[] place = thing < 2 ? new int[] {12, 0, 128, 0, thing} : new int[] {12, 1, 0, 0, thing - 2};
        int[] ask = Bench.join(new int[] {1, 4, 0, 4, 1, 12}, place, new int[] {25, 104});
        return Bench.upon(x, Bench.frame(5, 3, 5, ask));
    }

    private static void defaultsAtFirst() {
        BENCH.sentence("Each has a DEFAULT (0 at first)");
        for (int thing = 0; thing < 4; thing++) {
            Station x = station();
            BENCH.due("present(" + thing + ")", x.present(thing), 0);
            BENCH.due("default of " + thing + ", from its 68 or 145 on", readDefault(x, thing)[8 + 13], thing < 2 ? 68 : 145);
            for (int i = 8 + 14; i < (thing < 2 ? 8 + 18 : 8 + 15); i++) {
                BENCH.due("default of " + thing, x.sent(i), 0);
            }
        }
    }

    private static void ranksAtFirst() {
        BENCH.sentence("RANKS 1 .. 16, each none (at first) or a value.");
        for (int thing = 0; thing < 4; thing++) {
            for (int r = 1; r <= 16; r++) {
                Station x = station();
                x.set(thing, 0, 1, false);
                BENCH.due("all ranks are none", x.present(thing), 1);
                BENCH.due("set rank " + r, x.set(thing, r, 0, false), true);
                BENCH.due("a value, if 0, is not none", x.present(thing), 0);
            }
        }
    }

    private static void firstRankThatIsNotNone() {
        BENCH.sentence("Its PRESENT value is that of the first rank that is not none");
        for (int first = 1; first <= 16; first++) {
            Station x = station();
            for (int r = first; r <= 16; r++) {
                x.set(1, r, 1000 + r, false);
            }
            BENCH.due("rank " + first + " is the first", x.present(1), 1000 + first);
            x.set(1, first, 0, true);
            BENCH.due("it is taken away", x.present(1), first == 16 ? 0 : 1001 + first);
        }
    }

    private static void noneLeft() {
        BENCH.sentence("or the default.");
        Station x = station();
        x.set(0, 0, -7, false);
        for (int r = 1; r <= 16; r++) {
            x.set(0, r, r, false);
        }
        for (int r = 1; r <= 16; r++) {
            BENCH.due("rank " + r + " is the first", x.present(0), r);
            BENCH.due("it is taken away", x.set(0, r, 0, true), true);
        }
        BENCH.due("none is left", x.present(0), -7);
    }

    private static void valuesOfInts() {
        BENCH.sentence("(a value is an int)");
        int[] values = {LOWEST, -1, 0, 1, 2, 255, 256, HIGHEST};
        for (int thing = 0; thing < 2; thing++) {
            Station x = station();
            for (int value : values) {
                BENCH.due("default " + value, x.set(thing, 0, value, false), true);
                BENCH.due("default " + value, x.present(thing), value);
            }
            for (int value : values) {
                BENCH.due("rank 16 is " + value, x.set(thing, 16, value, false), true);
                BENCH.due("rank 16 is " + value, x.present(thing), value);
            }
        }
    }

    private static void valuesOfBinaries() {
        BENCH.sentence("(unless none is said) the value is not 0 or 1 for the things 2 and 3.");
        int[] wrong = {LOWEST, -1, 2, 3, 256, 257, HIGHEST};
        for (int thing = 2; thing < 4; thing++) {
            for (int r = 0; r <= 16; r++) {
                Station x = station();
                BENCH.due("a 1", x.set(thing, r, 1, false), true);
                for (int value : wrong) {
                    BENCH.due("a " + value, x.set(thing, r, value, false), false);
                }
                BENCH.due("the 1 stays", x.present(thing), 1);
                BENCH.due("a 0", x.set(thing, r, 0, false), true);
                BENCH.due("a 0", x.present(thing), 0);
            }
        }
    }

    private static void noSuchThing() {
        BENCH.sentence("False, changing nothing, when there is no such thing");
        int[] things = {LOWEST, -1, 4, 5, HIGHEST};
        for (int thing : things) {
            Station x = station();
            BENCH.due("thing " + thing, x.set(thing, 1, 1, false), false);
            BENCH.due("default of " + thing, x.set(thing, 0, 1, false), false);
            BENCH.due("none of " + thing, x.set(thing, 1, 1, true), false);
            unchanged(x);
        }
    }

    private static void noSuchRank() {
        BENCH.sentence("False, changing nothing, when there is no such thing or rank");
        int[] ranks = {LOWEST, -1, 17, 18, HIGHEST};
        for (int thing = 0; thing < 4; thing++) {
            for (int r : ranks) {
                Station x = station();
                BENCH.due("rank " + r, x.set(thing, r, 1, false), false);
                BENCH.due("none of rank " + r, x.set(thing, r, 1, true), false);
                unchanged(x);
            }
        }
    }

    private static void unchanged(Station x) {
        for (int thing = 0; thing < 4; thing++) {
            BENCH.due("present(" + thing + ") behind a refusal", x.present(thing), 0);
        }
    }

    private static void noneOfTheDefault() {
        BENCH.sentence("none is said of the default");
        for (int thing = 0; thing < 4; thing++) {
            Station x = station();
            x.set(thing, 0, 1, false);
            BENCH.due("none", x.set(thing, 0, 0, true), false);
            BENCH.due("the default stays", x.present(thing), 1);
        }
    }

    private static void valueDoesNotMatterForNone() {
        BENCH.sentence("(unless none is said)");
        int[] values = {LOWEST, -1, 0, 1, 2, HIGHEST};
        for (int thing = 0; thing < 4; thing++) {
            for (int value : values) {
                Station x = station();
                x.set(thing, 5, 1, false);
                BENCH.due("none with " + value, x.set(thing, 5, value, true), true);
                BENCH.due("it is taken away", x.present(thing), 0);
            }
        }
    }

    private static void noneOfNone() {
        BENCH.sentence("or, if none, takes it away.");
        for (int thing = 0; thing < 4; thing++) {
            Station x = station();
            BENCH.due("none of rank 1, which is none", x.set(thing, 1, 0, true), true);
            BENCH.due("none of rank 16, which is none", x.set(thing, 16, 0, true), true);
            unchanged(x);
        }
    }

    private static void refusedCallsChangeNothing() {
        BENCH.sentence("False, changing nothing");
        Station x = station();
        x.quiet(9);
        x.ask(5, 1, 2, 0, 85);
        x.set(4, 1, 1, false);
        x.set(0, 17, 1, false);
        x.set(0, 0, 1, true);
        x.set(2, 1, 2, false);
        unchanged(x);
        BENCH.due("silence()", x.silence(), 9);
        BENCH.due("state()", x.state(), 4096 + 3 * 136);
    }

    private static void thingsAreApart() {
        BENCH.sentence("THINGS: 0 and 1, of class 2 with the numbers 0 and 1 (a value is an int), 2 and 3");
        for (int thing = 0; thing < 4; thing++) {
            Station x = station();
            x.set(thing, 0, 1, false);
            for (int other = 0; other < 4; other++) {
                BENCH.due("present(" + other + ")", x.present(other), other == thing ? 1 : 0);
            }
        }
    }

    private static void presentOfNoThing() {
        BENCH.sentence("The present value of a thing; 0 when there is no such thing.");
        int[] things = {LOWEST, -1, 4, 5, HIGHEST};
        Station x = station();
        for (int thing = 0; thing < 4; thing++) {
            x.set(thing, 0, 1, false);
            x.set(thing, 1, 1, false);
        }
        for (int thing : things) {
            BENCH.due("present(" + thing + ")", x.present(thing), 0);
        }
        BENCH.due("present(0)", x.present(0), 1);
        BENCH.due("present(3)", x.present(3), 1);
    }
}
