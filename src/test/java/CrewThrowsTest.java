/**
 * Promises 2 to 16: each exception of each method, alone and together with those that are listed behind
 * it, after which nothing has changed.
 */
public final class CrewThrowsTest {
    private static final int LEAST = Integer.MIN_VALUE;
    private static final int MOST = Integer.MAX_VALUE;

    private CrewThrowsTest() {
    }

    public static void main(String[] args) {
        promise2Crew();
        promise3Skater();
        promise4Transfer();
        promise5Told();
        promise6Rating();
        promise7Rank();
        promise8Game();
        promise9Line();
        promise10Start();
        promise11End();
        promise12Clock();
        promise13NextPeriod();
        promise14Timeout();
        promise15Score();
        promise16Finish();
        Check.close("CrewThrowsTest");
    }

    private static void promise2Crew() {
        Refusal.badState("the ninth crew", Jamhouse::crew, State.EIGHT_CREWS);
        Refusal.answered("a crew", Jamhouse::crew, State.EMPTY, State.CREWS, State.JAM);
    }

    private static void promise3Skater() {
        for (int crew : new int[] {-1, 5, LEAST, MOST}) {
            Refusal.outOfBounds("the crew " + crew, house -> house.skater(crew, 5, 5), State.CREWS);
            Refusal.outOfBounds("the crew " + crew + ", then the speed", house -> house.skater(crew, 0, 5),
                    State.CREWS);
        }
        Refusal.outOfBounds("no crew at all", house -> house.skater(0, 5, 5), State.EMPTY);
        for (int speed : new int[] {0, 10, LEAST, MOST}) {
            Refusal.badArgument("the speed " + speed, house -> house.skater(0, speed, 5), State.CREWS);
            Refusal.badArgument("the speed " + speed + ", then ten", house -> house.skater(3, speed, 5),
                    State.CREWS);
        }
        for (int strength : new int[] {-1, 10, LEAST, MOST}) {
            Refusal.badArgument("the strength " + strength, house -> house.skater(0, 5, strength), State.CREWS);
            Refusal.badArgument("the strength " + strength + ", then ten",
                    house -> house.skater(3, 5, strength), State.CREWS);
        }
        Refusal.badState("an eleventh", house -> house.skater(3, 5, 5), State.CREWS, State.JAM);
        Refusal.answered("a skater", house -> house.skater(0, 5, 5), State.CREWS, State.JAM);
    }

    private static void promise4Transfer() {
        for (int crew : new int[] {-1, 5, LEAST, MOST}) {
            Refusal.outOfBounds("from " + crew, house -> house.transfer(crew, 0, 4), State.CREWS);
            Refusal.outOfBounds("to " + crew, house -> house.transfer(2, 0, crew), State.CREWS);
            Refusal.outOfBounds("from " + crew + " to itself", house -> house.transfer(crew, 0, crew), State.CREWS);
            Refusal.outOfBounds("from " + crew + " to ten", house -> house.transfer(crew, 0, 3), State.CREWS);
            Refusal.outOfBounds("from a game to " + crew, house -> house.transfer(0, 0, crew), State.BETWEEN);
            Refusal.outOfBounds("from " + crew + " to a game", house -> house.transfer(crew, 0, 1), State.JAM);
        }
        for (int skater : new int[] {-1, 4, LEAST, MOST}) {
            Refusal.outOfBounds("the skater " + skater, house -> house.transfer(2, skater, 4), State.CREWS);
            Refusal.outOfBounds("the skater " + skater + " to its crew", house -> house.transfer(2, skater, 2),
                    State.CREWS);
            Refusal.outOfBounds("the skater " + skater + " to ten", house -> house.transfer(2, skater, 3),
                    State.CREWS);
            Refusal.outOfBounds("the skater " + skater + " to a game", house -> house.transfer(2, skater, 0),
                    State.BETWEEN);
        }
        Refusal.outOfBounds("the skater 6 from a game", house -> house.transfer(1, 6, 2), State.JAM);
        Refusal.unsupported("to the same", house -> house.transfer(4, 0, 4), State.CREWS, State.JAM);
        Refusal.unsupported("the last one to the same", house -> house.transfer(2, 3, 2), State.CREWS);
        Refusal.unsupported("to ten", house -> house.transfer(2, 0, 3), State.CREWS);
        Refusal.unsupported("ten to the same", house -> house.transfer(3, 0, 3), State.CREWS);
        for (int team = 0; team < 2; team++) {
            int crew = team;
            Refusal.unsupported("from a game", house -> house.transfer(crew, 5, 2), State.BETWEEN, State.JAM,
                    State.JAM_THAT_IS_OVER, State.SECOND_PERIOD_OVER);
            Refusal.unsupported("to a game", house -> house.transfer(2, 0, crew), State.BETWEEN, State.JAM);
            Refusal.unsupported("from a game to ten", house -> house.transfer(crew, 0, 3), State.BETWEEN);
            Refusal.answered("from a game that ended", house -> house.transfer(crew, 5, 2), State.FINISHED);
        }
        Refusal.unsupported("from a team to the other one", house -> house.transfer(0, 0, 1), State.BETWEEN);
        Refusal.answered("between others", house -> house.transfer(2, 3, 4), State.CREWS, State.JAM);
    }

    private static void promise5Told() {
        for (int crew : new int[] {-1, 5, LEAST, MOST}) {
            Refusal.outOfBounds("the crew " + crew, house -> house.told(crew, 0, 's'), State.CREWS);
            Refusal.outOfBounds("the crew " + crew + ", then the letter", house -> house.told(crew, 0, 'x'),
                    State.JAM);
        }
        for (int skater : new int[] {-1, 6, LEAST, MOST}) {
            Refusal.outOfBounds("the skater " + skater, house -> house.told(1, skater, 'b'), State.CREWS);
            Refusal.outOfBounds("the skater " + skater + ", then the letter", house -> house.told(1, skater, 'a'),
                    State.JAM);
        }
        for (char what : "acdeghqruvTSFB0".toCharArray()) {
            Refusal.badArgument("the letter " + what, house -> house.told(0, 5, what), State.CREWS, State.JAM);
        }
        for (char what : new char[] {0, 's' + 256, 't' + 256, 'f' + 256, 'b' + 256, Character.MAX_VALUE}) {
            Refusal.badArgument("the sign " + (int) what, house -> house.told(0, 5, what), State.CREWS);
        }
        Refusal.answered("the last skater", house -> house.told(0, 5, 's'), State.CREWS, State.JAM);
    }

    private static void promise6Rating() {
        for (int crew : new int[] {-1, 5, LEAST, MOST}) {
            Refusal.outOfBounds("the rating of " + crew, house -> house.rating(crew), State.CREWS, State.JAM);
        }
        Refusal.answered("the rating of the last", house -> house.rating(4), State.CREWS, State.JAM);
    }

    private static void promise7Rank() {
        for (int crew : new int[] {-1, 5, LEAST, MOST}) {
            Refusal.outOfBounds("the rank of " + crew, house -> house.rank(crew), State.CREWS, State.JAM);
        }
        Refusal.answered("the rank of the last", house -> house.rank(4), State.CREWS, State.JAM);
    }

    private static void promise8Game() {
        for (int crew : new int[] {-1, 5, LEAST, MOST}) {
            Refusal.outOfBounds("game of " + crew, house -> house.game(crew, 0), State.CREWS);
            Refusal.outOfBounds("game with " + crew, house -> house.game(0, crew), State.CREWS);
            Refusal.outOfBounds("game of " + crew + " with itself", house -> house.game(crew, crew), State.CREWS,
                    State.JAM);
            Refusal.outOfBounds("game of " + crew + " with four", house -> house.game(crew, 2), State.CREWS);
            Refusal.outOfBounds("game with " + crew + " in a game", house -> house.game(4, crew), State.BETWEEN,
                    State.JAM);
        }
        Refusal.badArgument("game with itself", house -> house.game(4, 4), State.CREWS);
        Refusal.badArgument("game of four with itself", house -> house.game(2, 2), State.CREWS);
        Refusal.badArgument("game with itself in a game", house -> house.game(0, 0), State.BETWEEN, State.JAM);
        Refusal.unsupported("game in a game", house -> house.game(3, 4), State.BETWEEN, State.JAM,
                State.SECOND_PERIOD_OVER);
        Refusal.unsupported("game of four", house -> house.game(2, 4), State.CREWS, State.FINISHED);
        Refusal.unsupported("game with four", house -> house.game(4, 2), State.CREWS, State.FINISHED);
        Refusal.unsupported("game of four in a game", house -> house.game(2, 4), State.JAM);
        Refusal.answered("game of five", house -> house.game(4, 3), State.CREWS, State.FINISHED);
    }

    private static void promise9Line() {
        for (int wrong : new int[] {-1, 2, LEAST, MOST}) {
            Refusal.outOfBounds("the team " + wrong, house -> house.line(wrong, 0, 0), State.BETWEEN, State.JAM,
                    State.CREWS);
            Refusal.outOfBounds("the team " + wrong + ", and the skater", house -> house.line(wrong, 0, 6),
                    State.BETWEEN, State.JAM);
        }
        for (int wrong : new int[] {-1, 5, LEAST, MOST}) {
            Refusal.outOfBounds("the slot " + wrong, house -> house.line(1, wrong, 0), State.BETWEEN, State.JAM,
                    State.CREWS);
        }
        for (int wrong : new int[] {-1, 6, LEAST, MOST}) {
            Refusal.outOfBounds("the skater " + wrong, house -> house.line(0, 0, wrong), State.BETWEEN,
                    State.FIRST_PERIOD_OVER, State.SEVEN_FOULS);
            Refusal.badState("the skater " + wrong + " is not looked at", house -> house.line(0, 0, wrong),
                    State.JAM, State.JAM_THAT_IS_OVER, State.CREWS, State.FINISHED, State.EMPTY);
        }
        Refusal.badState("line", house -> house.line(0, 0, 5), State.JAM, State.JAM_THAT_IS_OVER, State.CREWS,
                State.FINISHED, State.EMPTY);
        Refusal.answered("line", house -> house.line(1, 4, 5), State.BETWEEN, State.SECOND_PERIOD_OVER);
    }

    private static void promise10Start() {
        Refusal.badState("start", Jamhouse::start, State.EMPTY, State.CREWS, State.FINISHED, State.JAM,
                State.JAM_THAT_IS_OVER, State.JAM_WITH_SEVEN_FOULS, State.OVERTIME, State.SIXTY_JAMS,
                State.SIXTY_JAMS_AND_A_WINNER);
        Refusal.unsupported("start", Jamhouse::start, State.FIRST_PERIOD_OVER, State.SECOND_PERIOD_OVER,
                State.SEVEN_FOULS);
        for (int team = 0; team < 2; team++) {
            for (int slot = 0; slot < 5; slot++) {
                sevenFoulsInALine(team, slot);
            }
        }
        Refusal.answered("start", Jamhouse::start, State.BETWEEN, State.NO_TIMEOUT_LEFT, State.SECOND_PERIOD,
                State.LIKE_SCORES);
        Refusal.answered("start without who has seven fouls", house -> {
            house.line(0, 4, 5);
            house.start();
        }, State.SEVEN_FOULS);
    }

    private static void sevenFoulsInALine(int team, int slot) {
        Jamhouse house = State.CREWS.make();
        house.game(0, 1);
        for (int i = 0; i < 7; i++) {
            house.start();
            house.penalty(team, slot, 'a');
            house.go(120);
            Check.due("jams", house.end(), i + 1);
        }
        Check.unsupported("start with seven fouls in " + team + " " + slot, house::start);
        house.line(team, slot, 5);
        Check.due("start without them", house.start(), 7);
    }

    private static void promise11End() {
        Refusal.badState("end", Jamhouse::end, State.EMPTY, State.CREWS, State.BETWEEN, State.JAM, State.FULL_JAM,
                State.FINISHED);
        Refusal.answered("end", Jamhouse::end, State.JAM_THAT_IS_OVER);
    }

    private static void promise12Clock() {
        Refusal.badState("clock", Jamhouse::clock, State.EMPTY, State.CREWS, State.FINISHED);
        Refusal.answered("clock", Jamhouse::clock, State.BETWEEN, State.JAM, State.JAM_THAT_IS_OVER,
                State.SECOND_PERIOD_OVER, State.OVERTIME);
    }

    private static void promise13NextPeriod() {
        Refusal.badState("nextPeriod", Jamhouse::nextPeriod, State.EMPTY, State.CREWS, State.FINISHED, State.JAM,
                State.JAM_THAT_IS_OVER, State.LAST_JAM_OF_THE_FIRST_PERIOD, State.OVERTIME);
        Refusal.unsupported("nextPeriod", Jamhouse::nextPeriod, State.BETWEEN, State.SECOND_PERIOD,
                State.SECOND_PERIOD_OVER, State.LIKE_SCORES);
        Refusal.answered("nextPeriod", Jamhouse::nextPeriod, State.FIRST_PERIOD_OVER);
    }

    private static void promise14Timeout() {
        for (int team : new int[] {-1, 2, LEAST, MOST}) {
            Refusal.outOfBounds("timeout of " + team, house -> house.timeout(team), State.BETWEEN, State.JAM,
                    State.CREWS, State.NO_TIMEOUT_LEFT);
        }
        Refusal.badState("timeout", house -> house.timeout(0), State.EMPTY, State.CREWS, State.FINISHED, State.JAM,
                State.JAM_THAT_IS_OVER, State.JAM_WITH_NONE_LEFT);
        Refusal.unsupported("timeout", house -> house.timeout(0), State.NO_TIMEOUT_LEFT);
        Refusal.answered("timeout", house -> house.timeout(1), State.NO_TIMEOUT_LEFT, State.BETWEEN,
                State.FIRST_PERIOD_OVER, State.SECOND_PERIOD_OVER);
    }

    private static void promise15Score() {
        for (int team : new int[] {-1, 2, LEAST, MOST}) {
            Refusal.outOfBounds("score of " + team, house -> house.score(team), State.BETWEEN, State.JAM,
                    State.CREWS, State.FINISHED);
        }
        Refusal.badState("score", house -> house.score(1), State.EMPTY, State.CREWS, State.FINISHED);
        Refusal.answered("score", house -> house.score(1), State.BETWEEN, State.JAM, State.SECOND_PERIOD_OVER);
    }

    private static void promise16Finish() {
        Refusal.badState("finish", Jamhouse::finish, State.EMPTY, State.CREWS, State.FINISHED, State.JAM,
                State.JAM_THAT_IS_OVER, State.OVERTIME);
        Refusal.unsupported("finish", Jamhouse::finish, State.BETWEEN, State.FIRST_PERIOD_OVER,
                State.SECOND_PERIOD, State.LIKE_SCORES, State.SIXTY_JAMS);
        Refusal.answered("finish", Jamhouse::finish, State.SECOND_PERIOD_OVER, State.SIXTY_JAMS_AND_A_WINNER);
    }
}
