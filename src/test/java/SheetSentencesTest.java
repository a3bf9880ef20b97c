/** The promises on sheets and figures: each sentence that names a boundary. */
public final class SheetSentencesTest {
    private SheetSentencesTest() {
    }

    public static void main(String[] args) {
        pointsOf0To99();
        theRefereesAndTeams();
        theOneBeforeOrNone();
        theMiddleOneOfThree();
        oneIsNotThere();
        signalsOfThisJam();
        jamsThatHaveEnded();
        theFirstAndTheLastJam();
        theSumOverTheJam();
        ofWhoHasComeBack0();
        theSharesOfLeads();
        theMeanOfPoints();
        soundThroughout();
        Check.close("SheetSentencesTest");
    }

    /** The points, 0 to 99. */
    private static void pointsOf0To99() {
        Jamhouse house = Houses.jam();
        Check.due("0", house.signal(0, 0, 0), -1);
        Check.due("99", house.signal(0, 0, 99), 0);
        Check.badArgument("100", () -> house.signal(0, 0, 100));
        Check.badArgument("-1", () -> house.signal(0, 0, -1));
        Check.due("1", house.signal(0, 0, 1), 99);
    }

    /** The referee, 0 to 2; the team, 0 or 1: each pair has its own. */
    private static void theRefereesAndTeams() {
        Jamhouse house = Houses.jam();
        Check.outOfBounds("the referee 3", () -> house.signal(3, 0, 5));
        Check.outOfBounds("the referee -1", () -> house.signal(-1, 0, 5));
        Check.outOfBounds("the team 2", () -> house.signal(0, 2, 5));
        Check.outOfBounds("the team -1", () -> house.signal(0, -1, 5));
        for (int round = 0; round < 2; round++) {
            for (int referee = 0; referee < 3; referee++) {
                for (int team = 0; team < 2; team++) {
                    int own = 10 * referee + team;
                    Check.due("signal", house.signal(referee, team, own), round == 0 ? -1 : own);
                }
            }
        }
    }

    /** The one before, -1 for none. */
    private static void theOneBeforeOrNone() {
        Jamhouse house = Houses.jam();
        Check.due("none", house.signal(2, 1, 4), -1);
        Check.due("the one before", house.signal(2, 1, 4), 4);
        Check.due("a like one", house.signal(2, 1, 0), 4);
        Check.due("0 is one", house.signal(2, 1, 9), 0);
        house.order(0, 0, 1, 0);
        house.correct(0);
        Check.due("one that is kept as an event is taken back", house.signal(2, 1, 3), 9);
        house.go(120);
        Check.due("in a jam that is over", house.signal(2, 1, 2), 3);
    }

    /** The middle one of three signals: of all orders, and of like ones. */
    private static void theMiddleOneOfThree() {
        Jamhouse house = Houses.jam();
        int[] values = {0, 1, 50, 99};
        for (int first : values) {
            for (int second : values) {
                for (int third : values) {
                    house.signal(0, 1, first);
                    house.signal(1, 1, second);
                    house.signal(2, 1, third);
                    int least = Math.min(first, Math.min(second, third));
                    int most = Math.max(first, Math.max(second, third));
                    Check.due("the middle one", house.official(1), first + second + third - least - most);
                }
            }
        }
    }

    /** One is not there. */
    private static void oneIsNotThere() {
        for (int missing = 0; missing < 3; missing++) {
            for (int team = 0; team < 2; team++) {
                int number = team;
                Jamhouse house = Houses.jam();
                Check.noElement("none is there", () -> house.official(number));
                for (int referee = 0; referee < 3; referee++) {
                    house.signal(referee, 1 - team, 7);
                    if (referee != missing) {
                        house.signal(referee, team, 0);
                    }
                }
                Check.noElement("one is not there", () -> house.official(number));
                Check.due("all of the other team", house.official(1 - team), 7);
                house.signal(missing, team, 99);
                Check.due("all are", house.official(team), 0);
            }
        }
    }

    /** A signal in this jam: none of the one before. */
    private static void signalsOfThisJam() {
        Jamhouse house = State.JAM_WITH_SIGNALS.make();
        Check.due("the middle one", house.official(0), 2);
        house.go(120);
        house.end();
        house.start();
        Check.noElement("none", () -> house.official(0));
        for (int referee = 0; referee < 3; referee++) {
            for (int team = 0; team < 2; team++) {
                Check.due("none", house.signal(referee, team, 1), -1);
            }
        }
    }

    /** How many jams of the last game have ended. */
    private static void jamsThatHaveEnded() {
        Check.due("without a game", State.CREWS.make().jams(), 0);
        Jamhouse house = State.FIRST_JAM.make();
        Check.due("in the first", house.jams(), 0);
        house.go(120);
        Check.due("as it is over", house.jams(), 0);
        house.end();
        Check.due("as it has ended", house.jams(), 1);
        Check.due("of a game that has ended", State.FINISHED.make().jams(), 24);
        Check.due("the most", State.SIXTY_JAMS.make().jams(), 60);
    }

    /** There is no such jam or team. */
    private static void theFirstAndTheLastJam() {
        Jamhouse house = Houses.game(5, 5);
        int[][] dues = {{5, 0}, {0, 0}, {0, 5}};
        for (int number = 0; number < 3; number++) {
            int next = number;
            Check.outOfBounds("before it", () -> house.jamPoints(next, 0));
            if (number == 1) {
                Houses.idleJam(house);
            } else {
                Houses.lappingJam(house, number / 2);
            }
            for (int i = 0; i <= number; i++) {
                Check.due("of team 0", house.jamPoints(i, 0), dues[i][0]);
                Check.due("of team 1", house.jamPoints(i, 1), dues[i][1]);
            }
        }
        Check.outOfBounds("-1", () -> house.jamPoints(-1, 0));
        Check.outOfBounds("3", () -> house.jamPoints(3, 0));
        Check.outOfBounds("the team 2", () -> house.jamPoints(2, 2));
        Check.outOfBounds("the team -1", () -> house.jamPoints(2, -1));
        Jamhouse last = State.SIXTY_JAMS_AND_A_WINNER.make();
        Check.isTrue("the last of 60", last.jamPoints(59, 1) > 0);
        Check.due("the one before", last.jamPoints(58, 1), 0);
    }

    /** The seconds, then 31 times itself plus the place, 7 times the lane, and 3 times the seconds to be served. */
    private static void theSumOverTheJam() {
        for (State state : new State[] {State.FIRST_JAM, State.JAM, State.JAM_WITHOUT_A_PACK, State.JAM_WITH_A_SPLIT,
            State.JAM_WITH_SEVEN_FOULS, State.JAM_THAT_IS_OVER, State.OVERTIME}) {
            Jamhouse house = state.make();
            Check.due("the sum of " + state, house.checksum(), sum(house));
            if (!house.isOver()) {
                house.go(1);
                Check.due("a second more", house.checksum(), sum(house));
            }
        }
    }

    private static long sum(Jamhouse house) {
        long sum = house.seconds();
        for (int team = 0; team < 2; team++) {
            for (int slot = 0; slot < 5; slot++) {
                char standing = house.standing(team, slot);
                int left = standing == 's' || standing == 'q' ? house.left(team, slot) : 0;
                sum = 31 * sum + house.place(team, slot) + 7 * house.lane(team, slot) + 3 * left;
            }
        }
        return sum;
    }

    /** Of who has come back 0: with the last second, or as the other star sits down. */
    private static void ofWhoHasComeBack0() {
        Jamhouse house = Houses.jam();
        house.penalty(1, 0, 'a');
        house.penalty(0, 3, 'a');
        house.go(5);
        house.penalty(0, 0, 'a');
        Check.due("back at once", house.checksum(), sum(house));
        house.go(25);
        Check.due("back", house.standing(0, 3), 'u');
        Check.due("with the last second", house.checksum(), sum(house));
    }

    /** The share of ended jams in which a team came to lead, both converted to float. */
    private static void theSharesOfLeads() {
        Jamhouse house = Houses.game(5, 5);
        Check.noElement("none has ended", () -> house.leadShare(0));
        int[] leads = new int[2];
        int[] teams = {0, -1, 1, 0, -1, 1, 1};
        for (int i = 0; i < teams.length; i++) {
            house.start();
            if (teams[i] >= 0) {
                Houses.send(house, teams[i], 0, 10);
                leads[teams[i]]++;
            }
            if (i == 3) {
                house.penalty(0, 0, 'a');
            }
            house.go(120);
            house.end();
            for (int team = 0; team < 2; team++) {
                Check.dueReal("of " + (i + 1), house.leadShare(team), (float) leads[team] / (float) (i + 1));
            }
        }
        Check.outOfBounds("the team 2", () -> house.leadShare(2));
        Check.outOfBounds("the team -1", () -> house.leadShare(-1));
    }

    /** The mean points of ended jams, both teams together, both converted to double. */
    private static void theMeanOfPoints() {
        Jamhouse house = Houses.game(5, 5);
        Check.noElement("none has ended", house::meanPoints);
        Houses.idleJam(house);
        Check.dueReal("0", house.meanPoints(), 0);
        Houses.lappingJam(house, 0);
        Check.dueReal("5 of 2", house.meanPoints(), 2.5);
        Houses.lappingJam(house, 1);
        Check.dueReal("10 of 3", house.meanPoints(), 10.0 / 3.0);
        Jamhouse finished = State.FINISHED.make();
        Check.dueReal("5 of 24, behind the game", finished.meanPoints(), 5.0 / 24.0);
        finished.game(0, 1);
        Check.noElement("none has ended in the next game", finished::meanPoints);
        Check.noElement("nor is there a share", () -> finished.leadShare(0));
    }

    /** Whether the jam, gone through again by its events, is the same: and without a jam. */
    private static void soundThroughout() {
        for (State state : State.values()) {
            Jamhouse house = state.make();
            Check.isTrue(state + " is sound", house.isSound());
        }
    }
}
