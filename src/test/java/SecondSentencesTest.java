/** The document's terms on seconds: each sentence that names a boundary. */
public final class SecondSentencesTest {
    private SecondSentencesTest() {
    }

    public static void main(String[] args) {
        whoIsNotInTheBoxMoves();
        whoIsDownIsOneSecondLessDown();
        whoIsOutStays();
        asFarAsTheyWereTold();
        atFirst0();
        speedLessA20thOfTiredness();
        or1IfThatIsLess();
        backwardAsTold();
        aThirdOfItAnd1();
        aThirdOfHowFarItGoes();
        onlyGoingForwardTires();
        thenTheyShiftByALane();
        outBeyondTheLanes();
        thenThoseInTheBoxAreServed();
        ifThereWasAPackAndIsNoneNow();
        whoChangedThePlaceMost();
        whoComesBackChangesThePlace();
        ifBothTeamsHaveSuch();
        ifNobodyOfThePacksSortIsLeft();
        atMost120Seconds();
        theLastSecondIsOneLikeOthers();
        Check.close("SecondSentencesTest");
    }

    /** Each one who is not in the box moves: the first and the last, too. */
    private static void whoIsNotInTheBoxMoves() {
        Jamhouse house = Houses.jam();
        for (int team = 0; team < 2; team++) {
            for (int slot = 0; slot < 5; slot++) {
                house.order(team, slot, 1 + slot, 0);
            }
        }
        house.penalty(0, 0, 'a');
        house.penalty(1, 4, 'a');
        house.go(1);
        for (int team = 0; team < 2; team++) {
            for (int slot = 0; slot < 5; slot++) {
                int from = slot == 0 ? -10 : 10 - 2 * slot + team;
                boolean isInBox = team * 5 + slot == 0 || team * 5 + slot == 9;
                Check.due("the place", house.place(team, slot), isInBox ? from : from + 1 + slot);
            }
        }
    }

    /** Who is down is one second less down, and stays, being up with the last one. */
    private static void whoIsDownIsOneSecondLessDown() {
        Jamhouse house = Houses.jam(8, 5);
        house.order(1, 2, 5, 1);
        Check.due("down", house.block(0, 2, 2, 'h', 'f'), 'd');
        house.go(1);
        Check.due("with the first one", house.standing(1, 2), 'd');
        Check.due("it stays", house.place(1, 2), 7);
        house.go(1);
        Check.due("with the last one", house.standing(1, 2), 'u');
        Check.due("it stays", house.place(1, 2), 7);
        Check.due("it does not shift", house.lane(1, 2), 2);
        house.go(1);
        Check.due("then it moves", house.place(1, 2), 12);
        Check.due("and shifts", house.lane(1, 2), 3);
        house.go(117);
        house.end();
        Check.due("who stays is not tired", house.told(1, 2, 't'), 0);
    }

    /** Who is out stays. */
    private static void whoIsOutStays() {
        Jamhouse house = Houses.jam();
        house.order(0, 4, 9, 1);
        house.go(1);
        Check.due("out", house.standing(0, 4), 'o');
        house.go(30);
        Check.due("its place", house.place(0, 4), 11);
        Check.due("its lane", house.lane(0, 4), 5);
        house.order(0, 4, 9, -1);
        house.go(1);
        Check.due("whatever it is told", house.place(0, 4), 11);
        Check.due("its lane", house.lane(0, 4), 5);
        house.go(88);
        house.end();
        house.start();
        house.order(0, 4, 9, 0);
        house.go(5);
        Check.due("it is not tired", house.place(0, 4), 2 + 45);
    }

    /** As far as they were told, -3 to 9. */
    private static void asFarAsTheyWereTold() {
        for (int far = -3; far <= 9; far++) {
            Jamhouse house = Houses.jam();
            house.order(0, 3, far, 0);
            house.go(1);
            Check.due("told " + far, house.place(0, 3), 4 + far);
            house.go(1);
            Check.due("again", house.place(0, 3), 4 + 2 * far);
        }
        Jamhouse house = Houses.jam();
        Check.badArgument("-4", () -> house.order(0, 3, -4, 0));
        Check.badArgument("10", () -> house.order(0, 3, 10, 0));
    }

    /** 0 at first. */
    private static void atFirst0() {
        Jamhouse house = Houses.jam();
        long sum = house.checksum() - house.seconds() * power(31, 10);
        house.go(119);
        Check.due("nobody moves", house.checksum() - house.seconds() * power(31, 10), sum);
    }

    private static long power(long base, int times) {
        long product = 1;
        for (int i = 0; i < times; i++) {
            product *= base;
        }
        return product;
    }

    /** At most their speed less a 20th, cut, of their tiredness. */
    private static void speedLessA20thOfTiredness() {
        Check.due("the speed 9, told 9", placeBehind(9, 9, 1), 9);
        Check.due("the speed 8, told 9", placeBehind(8, 9, 1), 8);
        Check.due("tiredness 16", placeBehind(9, 9, 5), 45);
        Check.due("tiredness 20", placeBehind(9, 9, 6), 45 + 8);
        Check.due("tiredness 19", placeBehind(2, 2, 20), 40);
        Check.due("tiredness 20", placeBehind(2, 2, 21), 41);
        Check.due("tiredness 39", placeBehind(3, 2, 40), 80);
        Check.due("tiredness 40", placeBehind(3, 2, 41), 81);
        Check.due("told less than that", placeBehind(4, 2, 41), 82);
    }

    /** How far somebody goes with a speed, being told how far, in some seconds. */
    private static int placeBehind(int speed, int told, int seconds) {
        int[] speeds = {9, 9, 9, speed, 9};
        int[] strengths = {5, 5, 5, 5, 5};
        Jamhouse house = Houses.jamOf(speeds, strengths, strengths, strengths);
        house.order(0, 3, told, 0);
        house.go(seconds);
        return house.place(0, 3) - 4;
    }

    /** Or 1, if that is less. */
    private static void or1IfThatIsLess() {
        Check.due("the speed 1", placeBehind(1, 9, 1), 1);
        Check.due("the speed 1 less 0", placeBehind(1, 9, 20), 20);
        Check.due("the speed 1 less 1", placeBehind(1, 9, 21), 21);
        Check.due("the speed 1 less 5", placeBehind(1, 9, 120), 120);
        Check.due("the speed 2 less 0", placeBehind(2, 9, 20), 40);
        Check.due("the speed 2 less 1", placeBehind(2, 9, 40), 60);
        Check.due("the speed 2 less 2", placeBehind(2, 9, 41), 61);
        Check.due("told 0", placeBehind(1, 0, 120), 0);
    }

    /** It is the most, not the least: backward goes as it was told, however tired. */
    private static void backwardAsTold() {
        Check.due("the speed 1", placeBehind(1, -3, 1), -3);
        Jamhouse house = Houses.jamOf(new int[] {1, 1, 1, 1, 1}, new int[5], new int[] {1, 1, 1, 1, 1}, new int[5]);
        house.order(0, 3, 1, 0);
        house.go(60);
        Check.due("1 in each", house.place(0, 3), 64);
        house.order(0, 3, -3, 0);
        house.go(10);
        Check.due("3 in each", house.place(0, 3), 34);
    }

    /** Going forward tires by a third of it, cut, and 1. */
    private static void aThirdOfItAnd1() {
        int[] dues = {0, 1, 1, 2, 2, 2, 3, 3, 3};
        for (int far = 1; far < 9; far++) {
            int seconds = 30 / dues[far] + 1;
            Check.due("told " + far, tiredBehind(9, far, seconds), dues[far] * seconds - 30);
        }
        Check.due("9, five times, then 8, four times", tiredBehind(9, 9, 9), 5 * 4 + 4 * 3 - 30);
    }

    /** What is told of somebody behind a jam in which it went for some seconds. */
    private static int tiredBehind(int speed, int told, int seconds) {
        int[] speeds = {9, 9, 9, speed, 9};
        int[] strengths = {5, 5, 5, 5, 5};
        Jamhouse house = Houses.jamOf(speeds, strengths, strengths, strengths);
        house.order(0, 3, told, 0);
        house.go(seconds);
        house.order(0, 3, 0, 0);
        house.go(120);
        house.end();
        return house.told(0, 3, 't');
    }

    private static void aThirdOfHowFarItGoes() {
        Check.due("told 9 with the speed 2", tiredBehind(2, 9, 35), 5);
        Check.due("told 9 with the speed 3", tiredBehind(3, 9, 10), 0);
        Check.due("ten times 3, then 2, eleven times", tiredBehind(3, 9, 21), 10 * 2 + 11 - 30);
        Check.due("told 9 with the speed 1", tiredBehind(1, 9, 31), 1);
    }

    private static void onlyGoingForwardTires() {
        Jamhouse house = Houses.jam();
        house.order(0, 3, 9, 0);
        house.go(9);
        house.order(0, 3, -3, 0);
        house.go(40);
        house.order(0, 3, 0, 1);
        house.go(1);
        house.order(0, 3, 0, -1);
        house.go(70);
        house.end();
        Check.due("neither back, nor aside, nor staying", house.told(0, 3, 't'), 32 - 30);
    }

    /** Then they shift by a lane, as told: in each second, also who stays or goes back. */
    private static void thenTheyShiftByALane() {
        int[] far = {-3, 0, 9};
        for (int i = 0; i < 3; i++) {
            Jamhouse house = Houses.jam();
            house.order(0, 2, far[i], 1);
            house.order(0, 3, far[i], -1);
            house.order(0, 4, far[i], 0);
            house.go(2);
            Check.due("two lanes on", house.lane(0, 2), 4);
            Check.due("two lanes back", house.lane(0, 3), 1);
            Check.due("in its lane", house.lane(0, 4), 4);
        }
        Jamhouse house = Houses.jam();
        Check.badArgument("2", () -> house.order(0, 3, 0, 2));
        Check.badArgument("-2", () -> house.order(0, 3, 0, -2));
    }

    /** And are out beyond the lanes 0 to 4: having gone as told in that second. */
    private static void outBeyondTheLanes() {
        for (int lanes = 0; lanes < 4; lanes++) {
            Jamhouse house = Houses.jam();
            house.order(0, 3, 2, -1);
            house.order(1, 1, 2, 1);
            house.go(lanes + 1);
            Check.due("down from the lane 3", house.standing(0, 3), lanes < 3 ? 'u' : 'o');
            Check.due("its lane", house.lane(0, 3), 2 - lanes);
            Check.due("up from the lane 1", house.standing(1, 1), lanes < 3 ? 'u' : 'o');
            Check.due("its lane", house.lane(1, 1), 2 + lanes);
            Check.due("its place", house.place(0, 3), 4 + 2 * (lanes + 1));
        }
    }

    /** Then those who were in the box as the second began are served: behind what moves and passes. */
    private static void thenThoseInTheBoxAreServed() {
        Jamhouse house = Houses.jam();
        house.penalty(0, 1, 'a');
        house.go(29);
        house.order(0, 4, -3, 0);
        house.order(0, 1, 5, 0);
        house.go(1);
        Check.due("20 behind who went back in it, not having moved", house.place(0, 1), -1 - 20);
        house.go(1);
        Check.due("it moves in the next one", house.place(0, 1), -1 - 20 + 5);
        Jamhouse none = Houses.jam();
        none.go(1);
        none.penalty(1, 1, 'a');
        Check.due("who comes between seconds", none.left(1, 1), 30);
    }

    /** If there was a pack as it began, and is none now, it was split. */
    private static void ifThereWasAPackAndIsNoneNow() {
        Jamhouse house = apart();
        house.order(1, 1, 1, 0);
        Check.due("10 apart", house.pack(), 2);
        Check.noElement("not yet", house::splitBy);
        house.go(1);
        Check.due("11 apart", house.pack(), 0);
        Check.due("split", house.splitBy(), 1);
        house.order(1, 1, 0, 0);
        house.order(0, 1, -1, 0);
        house.go(1);
        Check.due("without a pack nothing is split", house.splitBy(), 1);
        house.order(0, 1, 2, 0);
        house.go(1);
        Check.due("10 apart", house.pack(), 2);
        house.order(0, 1, -1, 0);
        house.go(1);
        Check.due("split again", house.splitBy(), 0);
    }

    /** Both pivots alone, 10 apart, that of team 1 ahead. */
    private static Jamhouse apart() {
        Jamhouse house = Houses.jam();
        for (int slot = 2; slot < 5; slot++) {
            house.penalty(0, slot, 'a');
            house.penalty(1, slot, 'a');
        }
        Houses.send(house, 1, 1, 18);
        return house;
    }

    /** By the team of the one of the pack's sort, now, who changed the place most in it. */
    private static void whoChangedThePlaceMost() {
        int[][] rows = {{-1, 2, 1}, {-2, 1, 0}, {-3, 2, 0}, {0, 1, 1}, {-1, 0, 0}, {3, 4, 1}, {-3, -2, 0}};
        for (int[] row : rows) {
            Jamhouse house = apart();
            house.order(0, 1, row[0], 0);
            house.order(1, 1, row[1], 0);
            house.go(1);
            Check.due("no pack", house.pack(), 0);
            Check.due(row[0] + " and " + row[1], house.splitBy(), row[2]);
        }
        for (int slot = 1; slot < 5; slot++) {
            for (int team = 0; team < 2; team++) {
                Jamhouse house = Houses.jam();
                for (int i = 1; i < 5; i++) {
                    house.order(team, i, -2, 0);
                    house.order(1 - team, i, 2, 0);
                }
                house.go(2);
                house.order(team, slot, -3, 0);
                house.go(4);
                Check.due("no pack", house.pack(), 0);
                Check.due("that of one slot is enough", house.splitBy(), team);
            }
        }
        Jamhouse star = apart();
        star.order(0, 0, 9, 0);
        star.order(1, 1, 1, 0);
        star.go(1);
        Check.due("a star is not of the pack's sort", star.splitBy(), 1);
        Jamhouse out = apart();
        out.order(0, 1, -3, -1);
        out.go(1);
        Check.due("in the lane 0", out.splitBy(), 0);
        Jamhouse gone = apart();
        gone.order(0, 1, 0, -1);
        gone.go(1);
        gone.order(0, 1, -3, -1);
        gone.order(1, 1, 1, 0);
        gone.go(1);
        Check.due("out", gone.standing(0, 1), 'o');
        Check.due("who is out now is not", gone.splitBy(), 1);
    }

    /** Who comes back from the box in that second has changed the place, too. */
    private static void whoComesBackChangesThePlace() {
        Jamhouse house = Houses.jam();
        house.penalty(0, 2, 'a');
        house.go(1);
        for (int slot = 2; slot < 5; slot++) {
            house.penalty(1, slot, 'a');
        }
        house.penalty(0, 3, 'a');
        house.penalty(0, 4, 'a');
        Houses.send(house, 1, 1, 18);
        house.go(27);
        Check.due("a second is left", house.left(0, 2), 1);
        house.order(1, 1, 9, 0);
        house.go(1);
        Check.due("no pack", house.pack(), 0);
        Check.due("20 behind 8, from 6", house.place(0, 2), -12);
        Check.due("which is more than 9", house.splitBy(), 0);
    }

    /** If both teams have such, by nobody. */
    private static void ifBothTeamsHaveSuch() {
        int[][] rows = {{-1, 1}, {-3, 3}, {3, 3}};
        for (int[] row : rows) {
            Jamhouse house = apart();
            house.order(0, 1, row[0], 0);
            house.order(1, 1, row[1], 0);
            house.go(1);
            Check.due("a pack", house.pack(), row[0] == row[1] ? 2 : 0);
            Check.noElement(row[0] + " and " + row[1], house::splitBy);
        }
        Jamhouse last = apart();
        last.order(1, 1, 1, 0);
        last.go(1);
        Check.due("by one first", last.splitBy(), 1);
        Houses.send(last, 1, 1, 18);
        last.order(0, 1, -1, 0);
        last.order(1, 1, 1, 0);
        last.go(1);
        Check.noElement("then by nobody", last::splitBy);
        Jamhouse several = Houses.jam();
        for (int slot = 1; slot < 5; slot++) {
            several.order(0, slot, 9, 0);
            several.order(1, slot, slot == 4 ? -3 : 0, 0);
        }
        several.go(2);
        Check.due("only one team has 9", several.splitBy(), 0);
    }

    /** Without anyone of the pack's sort there is no team. */
    private static void ifNobodyOfThePacksSortIsLeft() {
        Jamhouse house = apart();
        house.order(0, 1, 0, -1);
        house.order(1, 1, 0, -1);
        house.go(1);
        Check.due("in the lane 0", house.pack(), 2);
        house.go(1);
        Check.due("both out", house.pack(), 0);
        Check.noElement("by nobody", house::splitBy);
        Jamhouse one = apart();
        one.order(0, 1, 0, -1);
        one.go(1);
        Check.noElement("not yet", one::splitBy);
        one.go(1);
        Check.due("one is left, who stays", one.splitBy(), 1);
    }

    /** A jam lasts at most 120 seconds. */
    private static void atMost120Seconds() {
        Jamhouse house = Houses.jam();
        Check.due("go", house.go(119), 119);
        Check.isFalse("119", house.isOver());
        Check.badState("it cannot end", house::end);
        Check.due("go", house.go(1), 120);
        Check.isTrue("120", house.isOver());
        Check.badState("nor go on", () -> house.go(1));
        Check.due("go 120", Houses.jam().go(120), 120);
        Jamhouse cut = Houses.jam();
        cut.go(1);
        Check.due("a second fewer than told", cut.go(120), 120);
        Check.isTrue("over", cut.isOver());
        Jamhouse one = Houses.jam();
        for (int second = 1; second < 121; second++) {
            Check.isFalse("before " + second, one.isOver());
            Check.due("one by one", one.go(1), second);
        }
        Check.isTrue("over", one.isOver());
    }

    private static void theLastSecondIsOneLikeOthers() {
        Jamhouse house = Houses.jam();
        house.go(91);
        house.penalty(0, 1, 'a');
        house.order(0, 2, 1, 0);
        house.order(0, 3, 0, 1);
        house.go(1);
        house.go(120);
        Check.due("seconds", house.seconds(), 120);
        Check.due("29 of 30 are served", house.left(0, 1), 1);
        Check.due("29 times 1", house.place(0, 2), 6 + 29);
        Jamhouse back = Houses.jam();
        back.go(90);
        back.penalty(0, 1, 'a');
        back.go(30);
        Check.due("back with the last one", back.standing(0, 1), 'u');
    }
}
