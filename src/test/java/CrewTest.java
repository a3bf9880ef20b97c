/** Promises 1 to 7: a new object, crews and their skaters. */
public final class CrewTest {
    private CrewTest() {
    }

    public static void main(String[] args) {
        promise1NewObject();
        promise2Crew();
        promise3Skater();
        promise4Transfer();
        promise4TransferTakesAllAlong();
        promise5Told();
        promise6Rating();
        promise7Rank();
        Check.close("CrewTest");
    }

    private static void promise1NewObject() {
        Jamhouse house = new Jamhouse();
        Check.outOfBounds("rating(0) of a new house", () -> house.rating(0));
        Check.badState("clock() of a new house", house::clock);
        Check.badState("seconds() of a new house", house::seconds);
        Check.due("events() of a new house", house.events(), 0);
        Check.due("jams() of a new house", house.jams(), 0);
        Check.isTrue("isSound() of a new house", house.isSound());
        Check.due("crew() of a new house", house.crew(), 0);
        Check.due("a house beside it", new Jamhouse().crew(), 0);
    }

    private static void promise2Crew() {
        Jamhouse house = new Jamhouse();
        for (int i = 0; i < 8; i++) {
            Check.due("crew()", house.crew(), i);
        }
        Check.badState("the ninth crew()", house::crew);
        Check.outOfBounds("rating(8)", () -> house.rating(8));
        Check.due("rating(7)", house.rating(7), 500);
    }

    private static void promise3Skater() {
        Jamhouse house = new Jamhouse();
        Check.outOfBounds("skater without a crew", () -> house.skater(0, 5, 5));
        house.crew();
        house.crew();
        Check.outOfBounds("skater(-1, ..)", () -> house.skater(-1, 5, 5));
        Check.outOfBounds("skater(2, 0, ..), the crew first", () -> house.skater(2, 0, 10));
        Check.badArgument("speed 0", () -> house.skater(0, 0, 5));
        Check.badArgument("speed 10", () -> house.skater(0, 10, 5));
        Check.badArgument("strength -1", () -> house.skater(0, 5, -1));
        Check.badArgument("strength 10", () -> house.skater(0, 5, 10));
        Check.due("the least", house.skater(0, 1, 0), 0);
        Check.due("the most", house.skater(0, 9, 9), 1);
        Check.due("in the other crew", house.skater(1, 4, 4), 0);
        for (int i = 2; i < 10; i++) {
            Check.due("skater", house.skater(0, 5, 5), i);
        }
        Check.badState("the eleventh skater", () -> house.skater(0, 5, 5));
        Check.badArgument("the eleventh skater, the number first", () -> house.skater(0, 10, 5));
        Check.due("speed of the least", house.told(0, 0, 's'), 1);
        Check.due("speed of the most", house.told(0, 1, 's'), 9);
        Check.due("in a jam the other crew can still grow", Houses.jam().skater(1, 3, 3), 6);
    }

    private static void promise4Transfer() {
        Jamhouse house = new Jamhouse();
        for (int i = 0; i < 3; i++) {
            house.crew();
        }
        for (int i = 0; i < 4; i++) {
            house.skater(0, 1 + i, 0);
        }
        house.skater(1, 9, 0);
        Check.outOfBounds("transfer(3, 0, 1)", () -> house.transfer(3, 0, 1));
        Check.outOfBounds("transfer(-1, 0, 1)", () -> house.transfer(-1, 0, 1));
        Check.outOfBounds("transfer(0, 0, 3)", () -> house.transfer(0, 0, 3));
        Check.outOfBounds("transfer(0, 0, -1)", () -> house.transfer(0, 0, -1));
        Check.outOfBounds("transfer(0, 4, 1)", () -> house.transfer(0, 4, 1));
        Check.outOfBounds("transfer(0, -1, 1)", () -> house.transfer(0, -1, 1));
        Check.outOfBounds("transfer(0, 4, 0), the skater first", () -> house.transfer(0, 4, 0));
        Check.unsupported("transfer(0, 1, 0)", () -> house.transfer(0, 1, 0));
        Check.due("transfer(0, 1, 1)", house.transfer(0, 1, 1), 1);
        Check.due("who came", house.told(1, 1, 's'), 2);
        Check.due("who was ahead", house.told(0, 0, 's'), 1);
        Check.due("who was behind", house.told(0, 1, 's'), 3);
        Check.due("who was last", house.told(0, 2, 's'), 4);
        Check.outOfBounds("the last number", () -> house.told(0, 3, 's'));
        Check.due("a new one behind", house.skater(0, 7, 0), 3);
        Check.due("who was last, behind that", house.told(0, 2, 's'), 4);
        Check.due("who came, behind that", house.told(1, 1, 's'), 2);
        Check.due("to an empty crew", house.transfer(0, 3, 2), 0);
        Check.due("who came there", house.told(2, 0, 's'), 7);
        for (int i = 2; i < 10; i++) {
            house.skater(1, 5, 5);
        }
        Check.unsupported("to a crew of ten", () -> house.transfer(0, 0, 1));
        Check.due("from a crew of ten", house.transfer(1, 0, 0), 3);
        Check.due("whose speed is", house.told(0, 3, 's'), 9);
        Check.due("and again to it", house.transfer(0, 0, 1), 9);
        Check.due("whose speed was", house.told(1, 9, 's'), 1);
    }

    private static void promise4TransferTakesAllAlong() {
        Jamhouse house = Houses.jam();
        house.crew();
        for (int i = 0; i < 5; i++) {
            house.skater(2, 2, 2);
        }
        house.crew();
        Check.due("between crews that are in no game", house.transfer(2, 0, 3), 0);
        Check.due("and back", house.transfer(3, 0, 2), 4);
        Check.unsupported("from a crew in a game", () -> house.transfer(0, 0, 2));
        Check.unsupported("to a crew in a game", () -> house.transfer(2, 0, 1));
        house.penalty(0, 2, 'a');
        house.order(0, 0, 9, 0);
        house.go(120);
        house.end();
        Check.unsupported("between jams", () -> house.transfer(0, 0, 2));
        Houses.playPeriod(house);
        house.nextPeriod();
        Houses.lappingJam(house, 0);
        Houses.playPeriod(house);
        house.finish();
        int tired = house.told(0, 2, 't');
        Check.due("behind the game", house.transfer(0, 2, 2), 5);
        Check.due("fouls go along", house.told(2, 5, 'f'), 1);
        Check.due("seconds go along", house.told(2, 5, 'b'), 30);
        Check.due("tiredness goes along", house.told(2, 5, 't'), tired);
        Check.due("who is there now has none", house.told(0, 2, 'f'), 0);
        house.game(1, 2);
        Check.due("a game begins without fouls", house.told(2, 5, 'f'), 0);
        Check.due("a game begins without seconds", house.told(2, 5, 'b'), 0);
        Check.due("a game begins without tiredness", house.told(2, 5, 't'), 0);
    }

    private static void promise5Told() {
        Jamhouse house = Houses.jam();
        Check.outOfBounds("told(2, 0, 's')", () -> house.told(2, 0, 's'));
        Check.outOfBounds("told(-1, 0, 's')", () -> house.told(-1, 0, 's'));
        Check.outOfBounds("told(0, 6, 's')", () -> house.told(0, 6, 's'));
        Check.outOfBounds("told(0, -1, 'x'), the skater first", () -> house.told(0, -1, 'x'));
        Check.badArgument("told(0, 0, 'x')", () -> house.told(0, 0, 'x'));
        Check.badArgument("told(0, 0, 'S')", () -> house.told(0, 0, 'S'));
        house.order(0, 0, 9, 0);
        house.penalty(1, 3, 'a');
        house.go(10);
        Check.due("tiredness in the jam", house.told(0, 0, 't'), 0);
        Check.due("fouls in the jam", house.told(1, 3, 'f'), 0);
        Check.due("seconds in the jam", house.told(1, 3, 'b'), 0);
        Check.due("who is called off", house.callOff(0), 'c');
        Check.due("over, but not ended", house.told(1, 3, 'b'), 0);
        house.end();
        Check.due("tiredness: 5 times 4, then 5 times 3, less 30", house.told(0, 0, 't'), 5);
        Check.due("fouls", house.told(1, 3, 'f'), 1);
        Check.due("seconds", house.told(1, 3, 'b'), 10);
        Check.due("who was not there", house.told(1, 5, 'b'), 0);
        house.start();
        house.go(120);
        house.end();
        Check.due("the seconds of a skater are kept", house.told(1, 3, 'b'), 10);
        Check.due("tiredness is not below 0", house.told(0, 0, 't'), 0);
    }

    private static void promise6Rating() {
        Jamhouse house = Houses.crews(5, 5);
        Check.outOfBounds("rating(2)", () -> house.rating(2));
        Check.outOfBounds("rating(-1)", () -> house.rating(-1));
        Check.due("rating at first", house.rating(1), 500);
        playGame(house, 0, 1, 0);
        Check.due("who won by 5", house.rating(0), 501);
        Check.due("who lost by 5", house.rating(1), 499);
    }

    private static void promise7Rank() {
        Jamhouse house = Houses.crews(5, 5);
        house.crew();
        Check.outOfBounds("rank(3)", () -> house.rank(3));
        Check.outOfBounds("rank(-1)", () -> house.rank(-1));
        for (int i = 0; i < 3; i++) {
            Check.due("rank of like ones", house.rank(i), i);
        }
        playGame(house, 0, 1, 1);
        Check.due("who lost", house.rank(0), 2);
        Check.due("who won", house.rank(1), 0);
        Check.due("who did not play", house.rank(2), 1);
    }

    /** A game in which only the winner has points, five of them. */
    private static void playGame(Jamhouse house, int crew, int other, int winner) {
        house.game(crew, other);
        Houses.lappingJam(house, winner);
        Houses.playPeriod(house);
        house.nextPeriod();
        Houses.playPeriod(house);
        house.finish();
    }
}
